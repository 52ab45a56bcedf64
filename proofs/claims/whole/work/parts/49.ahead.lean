theorem eB_keepHead {d : Nat} {h : jx_H} {Q : Option jx_V → jx_H → Prop} (k : ∀ S' : Nat → Nat → Int32, jz_S h S' → (∀ q, q < 37 → S' 99 q = jA h q) → Q none (jS h S')) : jx_Ev jm_MD_keepHead (d) 0 0 false 1 [jv_r 11 0] h Q := by
  have := eS_keepHead (d := d) (Q := Q) (h := h) (S := fun a => jh_I h a 0) (fun S' h1 h2 => k S' (fun f _ => congrFun (h1 11 (by decide)) f) h2)
  rw [jS_self] at this
  exact this
theorem jw_h_self (hm : jx_H) : jw_h hm (jA hm) = hm := jg_self _ _ _
theorem eS_lapses0 {d : Nat} {hm : jx_H} {Q : Option jx_V → jx_H → Prop} {b : Nat} {S : Nat → Nat → Int32} (hB : jz_B hm b) (hS : jz_S hm S) (hQ : Q (some (jv_i (jw_sum (fun d => jA hm (24 + d)) (jz_nd hm b)))) (jS hm S)) : jx_Ev jm_MD_lapsesSoFar (d + 1) 0 0 false 1 [jv_r 11 0] (jS hm S) Q := by
  have := eS_lapses (d := d) (a := jA hm) hB hS (Q := Q)
  rw [jw_h_self] at this
  exact this hQ
theorem jw_sum_sub {f g : Nat → Int32} : ∀ {n : Nat}, jw_sum (fun j => f j - g j) n = jw_sum f n - jw_sum g n
  | 0 => (Int32.sub_self 0).symm
  | n + 1 => by
    rw [jw_sum, jw_sum, jw_sum, jw_sum_sub]
    simp only [Int32.sub_eq_add_neg, Int32.neg_add]
    ac_rfl
theorem jw_sum_ext {f : Nat → Int32} {n : Nat} : ∀ {m : Nat}, (∀ j, n ≤ j → j < n + m → f j = 0) → jw_sum f (n + m) = jw_sum f n
  | 0, _ => rfl
  | m + 1, h => by
    rw [show n + (m + 1) = (n + m) + 1 from rfl, jw_sum, jw_sum_ext (fun j h1 h2 => h j h1 (by omega)), h (n + m) (by omega) (by omega), Int32.add_zero]
set_option maxHeartbeats 800000 in
set_option maxRecDepth 100000 in
theorem lp_MD_ahead_0 {d n0 : Nat} {Q : Option jx_V → jx_H → Prop} {hm : jx_H} {b n p w : Nat} {z : Int32} (hw : jz_W hm b) (hmo : ¬ jC hm b 0 0 = 0) (hp : p < 5) (hw0 : jA hm 0 = nI w) (hn : w + n ≤ 511) (kk : ∀ S' : Nat → Nat → Int32, jz_S hm S' → Q (some (jv_i ((jw_nxs hm b n (jA hm)) 1))) (jS hm S'))  : jx_W (jm_MD_ahead, d + 30, 0, 0, false, 1, n0) Q 0 0 22 [some (jv_r 11 0), some (jv_i (nI n)), some (jv_i 0), some (jv_i z), none, none] [] hm := by
  have hB := jz_W_B hw
  refine jr_aload rfl rfl ?_
  refine jr_cv0 (mc' := 0) (ms' := 0) rfl jm_MD_keepHead_n jm_MD_keepHead_f rfl rfl rfl rfl rfl rfl rfl (Nat.zero_le _) (Nat.zero_le _) ?_
  refine eB_keepHead (fun S1 hS1 hH1 => ?_)
  refine jr_aload rfl rfl ?_
  refine jr_cv0 (mc' := 0) (ms' := 0) rfl jm_MD_lapsesSoFar_n jm_MD_lapsesSoFar_f rfl rfl rfl rfl rfl rfl rfl (Nat.zero_le _) (Nat.zero_le _) ?_
  refine eS_lapses0 hB hS1 ?_
  refine jr_ist4 rfl rfl ?_
  refine jr_ic rfl ?_
  refine jr_ist5 rfl rfl ?_
  have e := lp_MD_ahead (d := d) (n0 := n0) (Q := Q) (S9 := S1 99) (hm := hm) (b := b) (n := n) (w := w) (a0 := jA hm) (y := 0) (z := z) (u := jw_sum (fun d => jA hm (24 + d)) (jz_nd hm b)) S1 0 hB hS1 hmo hw.2.2.2 hw0 (Nat.zero_le _) hn rfl (fun S2 hS2 hS9 v => ?_)
  · rw [show jw_nxs hm b 0 (jA hm) = jA hm from rfl, jw_h_self] at e
    exact e
  refine jr_iload rfl rfl ?_
  refine jr_if_ne rfl (fun z => absurd (by decide) z) (fun _ => ?_)
  refine jr_aload rfl rfl ?_
  refine jr_getR rfl rfl rfl rfl (Or.inl rfl) ?_
  refine jr_ic rfl ?_
  refine jr_iald (len := 337) rfl rfl (show _ = nI 1 from rfl) (by decide) ?_
  refine jr_goto rfl ?_
  refine jr_ist5 rfl rfl ?_
  refine jr_aload rfl rfl ?_
  refine jr_cv0 (mc' := 0) (ms' := 0) rfl jm_MD_bringHead_n jm_MD_bringHead_f rfl rfl rfl rfl rfl rfl rfl (Nat.zero_le _) (Nat.zero_le _) ?_
  refine eS_bringHead (h := hm) (fun q hq => by rw [hS9]; exact hH1 q hq) (fun q hq => jw_nxs_hi hB.2.2 (Or.inr (by omega))) ?_
  refine jr_iload rfl rfl ?_
  refine jr_iret rfl rfl (Nat.zero_le _) (Nat.zero_le _) ?_
  exact kk S2 hS2

set_option maxHeartbeats 800000 in
set_option maxRecDepth 100000 in
theorem lp_MD_ahead_1 {d n0 : Nat} {Q : Option jx_V → jx_H → Prop} {hm : jx_H} {b n p w : Nat} {z : Int32} (hw : jz_W hm b) (hmo : ¬ jC hm b 0 0 = 0) (hp : p < 5) (hw0 : jA hm 0 = nI w) (hn : w + n ≤ 511) (kk : ∀ S' : Nat → Nat → Int32, jz_S hm S' → Q (some (jv_i (jw_sum (fun d => (jw_nxs hm b n (jA hm)) (24 + d)) (jz_nd hm b) - jw_sum (fun d => jA hm (24 + d)) (jz_nd hm b)))) (jS hm S'))  : jx_W (jm_MD_ahead, d + 30, 0, 0, false, 1, n0) Q 0 0 22 [some (jv_r 11 0), some (jv_i (nI n)), some (jv_i 1), some (jv_i z), none, none] [] hm := by
  have hB := jz_W_B hw
  refine jr_aload rfl rfl ?_
  refine jr_cv0 (mc' := 0) (ms' := 0) rfl jm_MD_keepHead_n jm_MD_keepHead_f rfl rfl rfl rfl rfl rfl rfl (Nat.zero_le _) (Nat.zero_le _) ?_
  refine eB_keepHead (fun S1 hS1 hH1 => ?_)
  refine jr_aload rfl rfl ?_
  refine jr_cv0 (mc' := 0) (ms' := 0) rfl jm_MD_lapsesSoFar_n jm_MD_lapsesSoFar_f rfl rfl rfl rfl rfl rfl rfl (Nat.zero_le _) (Nat.zero_le _) ?_
  refine eS_lapses0 hB hS1 ?_
  refine jr_ist4 rfl rfl ?_
  refine jr_ic rfl ?_
  refine jr_ist5 rfl rfl ?_
  have e := lp_MD_ahead (d := d) (n0 := n0) (Q := Q) (S9 := S1 99) (hm := hm) (b := b) (n := n) (w := w) (a0 := jA hm) (y := 1) (z := z) (u := jw_sum (fun d => jA hm (24 + d)) (jz_nd hm b)) S1 0 hB hS1 hmo hw.2.2.2 hw0 (Nat.zero_le _) hn rfl (fun S2 hS2 hS9 v => ?_)
  · rw [show jw_nxs hm b 0 (jA hm) = jA hm from rfl, jw_h_self] at e
    exact e
  refine jr_iload rfl rfl ?_
  refine jr_if_ne rfl (fun _ => ?_) (fun z => absurd z (by decide))
  refine jr_iload rfl rfl ?_
  refine jr_ic rfl ?_
  refine jr_icmp_ne rfl (fun z => absurd (by decide) z) (fun _ => ?_)
  refine jr_aload rfl rfl ?_
  refine jr_cv0 (mc' := 0) (ms' := 0) rfl jm_MD_lapsesSoFar_n jm_MD_lapsesSoFar_f rfl rfl rfl rfl rfl rfl rfl (Nat.zero_le _) (Nat.zero_le _) ?_
  refine eS_lapses hB hS2 ?_
  refine jr_iload rfl rfl ?_
  refine jr_isub rfl ?_
  refine jr_goto rfl ?_
  refine jr_ist5 rfl rfl ?_
  refine jr_aload rfl rfl ?_
  refine jr_cv0 (mc' := 0) (ms' := 0) rfl jm_MD_bringHead_n jm_MD_bringHead_f rfl rfl rfl rfl rfl rfl rfl (Nat.zero_le _) (Nat.zero_le _) ?_
  refine eS_bringHead (h := hm) (fun q hq => by rw [hS9]; exact hH1 q hq) (fun q hq => jw_nxs_hi hB.2.2 (Or.inr (by omega))) ?_
  refine jr_iload rfl rfl ?_
  refine jr_iret rfl rfl (Nat.zero_le _) (Nat.zero_le _) ?_
  exact kk S2 hS2

set_option maxHeartbeats 800000 in
set_option maxRecDepth 100000 in
theorem lp_MD_ahead_2 {d n0 : Nat} {Q : Option jx_V → jx_H → Prop} {hm : jx_H} {b n p w : Nat} {z : Int32} (hw : jz_W hm b) (hmo : ¬ jC hm b 0 0 = 0) (hp : p < 5) (hw0 : jA hm 0 = nI w) (hn : w + n ≤ 511) (kk : ∀ S' : Nat → Nat → Int32, jz_S hm S' → Q (some (jv_i ((jw_nxs hm b n (jA hm)) (2 + p)))) (jS hm S'))  : jx_W (jm_MD_ahead, d + 30, 0, 0, false, 1, n0) Q 0 0 22 [some (jv_r 11 0), some (jv_i (nI n)), some (jv_i 2), some (jv_i (nI p)), none, none] [] hm := by
  have hB := jz_W_B hw
  refine jr_aload rfl rfl ?_
  refine jr_cv0 (mc' := 0) (ms' := 0) rfl jm_MD_keepHead_n jm_MD_keepHead_f rfl rfl rfl rfl rfl rfl rfl (Nat.zero_le _) (Nat.zero_le _) ?_
  refine eB_keepHead (fun S1 hS1 hH1 => ?_)
  refine jr_aload rfl rfl ?_
  refine jr_cv0 (mc' := 0) (ms' := 0) rfl jm_MD_lapsesSoFar_n jm_MD_lapsesSoFar_f rfl rfl rfl rfl rfl rfl rfl (Nat.zero_le _) (Nat.zero_le _) ?_
  refine eS_lapses0 hB hS1 ?_
  refine jr_ist4 rfl rfl ?_
  refine jr_ic rfl ?_
  refine jr_ist5 rfl rfl ?_
  have e := lp_MD_ahead (d := d) (n0 := n0) (Q := Q) (S9 := S1 99) (hm := hm) (b := b) (n := n) (w := w) (a0 := jA hm) (y := 2) (z := (nI p)) (u := jw_sum (fun d => jA hm (24 + d)) (jz_nd hm b)) S1 0 hB hS1 hmo hw.2.2.2 hw0 (Nat.zero_le _) hn rfl (fun S2 hS2 hS9 v => ?_)
  · rw [show jw_nxs hm b 0 (jA hm) = jA hm from rfl, jw_h_self] at e
    exact e
  refine jr_iload rfl rfl ?_
  refine jr_if_ne rfl (fun _ => ?_) (fun z => absurd z (by decide))
  refine jr_iload rfl rfl ?_
  refine jr_ic rfl ?_
  refine jr_icmp_ne rfl (fun _ => ?_) (fun z => absurd z (by decide))
  refine jr_aload rfl rfl ?_
  refine jr_getR rfl rfl rfl rfl (Or.inl rfl) ?_
  refine jr_ic rfl ?_
  refine jr_iload rfl rfl ?_
  refine jr_iadd rfl ?_
  refine jr_iald (len := 337) rfl rfl (jn_add (show _ = nI 2 from rfl) rfl) (by omega) ?_
  refine jr_ist5 rfl rfl ?_
  refine jr_aload rfl rfl ?_
  refine jr_cv0 (mc' := 0) (ms' := 0) rfl jm_MD_bringHead_n jm_MD_bringHead_f rfl rfl rfl rfl rfl rfl rfl (Nat.zero_le _) (Nat.zero_le _) ?_
  refine eS_bringHead (h := hm) (fun q hq => by rw [hS9]; exact hH1 q hq) (fun q hq => jw_nxs_hi hB.2.2 (Or.inr (by omega))) ?_
  refine jr_iload rfl rfl ?_
  refine jr_iret rfl rfl (Nat.zero_le _) (Nat.zero_le _) ?_
  exact kk S2 hS2

set_option maxHeartbeats 800000 in
set_option maxRecDepth 100000 in
theorem lp_For_lapses {d n0 : Nat} {Q : Option jx_V → jx_H → Prop} {h : jx_H} {m kc : Nat} {n : Int32} {S T : Nat → Nat → Int32} (j : Nat) (hj : j ≤ 12) (hQ : Q (some (jv_i (jw_sum (fun d => T 35 d - jh_I h 35 0 d) 12))) (jP (jK h 4 T m) S kc))  : jx_W (jm_For_lapsesAhead, d + 7, 0, 0, false, 0, n0) Q 0 0 8 [some (jv_r 3 0), some (jv_r 1 0), some (jv_i n), some (jv_i (jw_sum (fun d => T 35 d - jh_I h 35 0 d) j)), some (jv_i (nI j))] [] (jP (jK h 4 T m) S kc) := by
  refine jr_iload rfl rfl ?_
  refine jr_ic rfl ?_
  refine jr_icmp_ge rfl (fun c10 => ?_) (fun c10 => ?_)
  · refine jr_iload rfl rfl ?_
    refine jr_iret rfl rfl (Nat.zero_le _) (Nat.zero_le _) ?_
    have hx1 : 12 ≤ j := jn_le (show nI 12 ≤ nI j from c10) (by omega) (by omega)
    obtain rfl : j = 12 := by omega
    exact hQ
  · have hl1 : j < 12 := jn_nle (show ¬ nI 12 ≤ nI j from c10) (by omega) (by omega)
    refine jr_iload rfl rfl ?_
    refine jr_aload rfl rfl ?_
    refine jr_getR rfl rfl rfl rfl (Or.inl rfl) ?_
    refine jr_getR rfl rfl rfl rfl (Or.inl rfl) ?_
    refine jr_iload rfl rfl ?_
    refine jr_iald (len := 12) rfl rfl rfl (by omega) ?_
    refine jr_aload rfl rfl ?_
    refine jr_getR rfl rfl rfl rfl (Or.inl rfl) ?_
    refine jr_iload rfl rfl ?_
    refine jr_iald (len := 12) rfl rfl rfl (by omega) ?_
    refine jr_isub rfl ?_
    refine jr_iadd rfl ?_
    refine jr_ist3 rfl rfl ?_
    refine jr_iinc4 rfl rfl ?_
    refine jr_goto rfl ?_
    rw [jn_S]
    exact lp_For_lapses (j + 1) (by omega) hQ
termination_by 12 - j
decreasing_by all_goals omega

set_option maxHeartbeats 800000 in
set_option maxRecDepth 100000 in
theorem pd_ahead {d : Nat} {hc hm : jx_H} {x y z : Int32} (hRel : jz_Rel hc hm) : jx_Ev jm_JV_ahead (d + 40) 0 0 false 0 [jv_r 10 0, jv_i x, jv_i y, jv_i z] hc (fun r hc' => jx_Ev jm_MD_ahead (d + 40) 0 0 false 1 [jv_r 11 0, jv_i x, jv_i y, jv_i z] hm (fun r' hm' => r = r' ∧ jz_Rel hc' hm')) := by
  have hRel0 := hRel
  obtain ⟨b, r, ⟨hw, hG, hr2, hto, hsp, hR, hA, hL⟩, hTa, hFa, hLy, hTi, hLe, hBo, hAc, hWo⟩ := hRel
  have hb2 := hw.2.1
  have hnm := hw.2.2.1.1
  have hnm5 := hnm.2
  have km1 : (jh_I hc 7 r 0).toInt = (jz_nm hm b : Int) := by rw [hR.1]; exact (congrArg Int32.toInt hnm.1).trans (nI_toInt (by omega))
  have km2 : (jh_I hm 66 0 b).toInt = (jz_nm hm b : Int) := (congrArg Int32.toInt hnm.1).trans (nI_toInt (by omega))
  have km3 : (jh_I hm 66 0 b - 1).toInt = (jz_nm hm b : Int) - 1 := by rw [Int32.toInt_sub, km2, show (1 : Int32).toInt = 1 from rfl]; exact jn_sm (by omega) (by omega)
  have hnp := hw.2.2.1.2.1
  have hnp5 := hnp.2
  have kp1 : (jh_I hc 7 r 3).toInt = (jz_np hm b : Int) := by rw [hR.2.1]; exact (congrArg Int32.toInt hnp.1).trans (nI_toInt (by omega))
  have kp2 : (jh_I hm 67 0 b).toInt = (jz_np hm b : Int) := (congrArg Int32.toInt hnp.1).trans (nI_toInt (by omega))
  have kp3 : (jh_I hm 67 0 b - 1).toInt = (jz_np hm b : Int) - 1 := by rw [Int32.toInt_sub, kp2, show (1 : Int32).toInt = 1 from rfl]; exact jn_sm (by omega) (by omega)
  obtain ⟨-, w, g1, g2, g3, g4⟩ := id hG
  rcases jz_3 (A := jC hm b 0 0 = 0) x 0 60 (by decide) with hmo | ⟨hmo, i, rfl, -, hi, hi2⟩ | ⟨hmo, hi⟩
  · have hn0 : (jz_nm hm b : Int) = 0 := by rw [← km2]; exact congrArg Int32.toInt hmo
    show jx_W (jm_JV_ahead, d + 40, 0, 0, false, 0, _) _ 0 0 0 [some (jv_r 10 0), some (jv_i x), some (jv_i y), some (jv_i z)] [] _
    refine jr_aload rfl rfl ?_
    refine jr_getM rfl rfl rfl rfl hto ?_
    refine jr_getI rfl rfl ?_
    refine jr_if_eq rfl (fun c3 => ?_) (fun c3 => ?_)
    · refine jr_ic rfl ?_
      refine jr_iret rfl rfl (Nat.zero_le _) (Nat.zero_le _) ?_
      show jx_W (jm_MD_ahead, d + 40, 0, 0, false, 1, _) _ 0 0 0 [some _, some _, some _, some _, none, none] [] _
      refine jr_iload rfl rfl ?_
      refine jr_ic rfl ?_
      refine jr_ic rfl ?_
      refine jr_cs3 (mc' := 0) (ms' := 0) rfl jm_MD_isIn_n jm_MD_isIn_f rfl rfl rfl rfl rfl (Nat.zero_le _) (Nat.zero_le _) ?_
      show jx_W (jm_MD_isIn, _, _, _, _, _, _) _ 0 0 0 [some _, some _, some _] [] _
      refine jr_iload rfl rfl ?_
      refine jr_iload rfl rfl ?_
      refine jr_icmp_lt rfl (fun m2MDisIn => ?_) (fun m2MDisIn => ?_)
      · refine jr_ic rfl ?_
        refine jr_zret rfl rfl rfl (Nat.zero_le _) (Nat.zero_le _) ?_
        refine jr_if_eq rfl (fun _ => ?_) (fun z => absurd (by decide) z)
        refine jr_ic rfl ?_
        refine jr_iret rfl rfl (Nat.zero_le _) (Nat.zero_le _) ?_
        first
          | exact ⟨rfl, hRel0⟩
          | (exfalso; omega)
          | (exfalso; simp (disch := omega) only [Int32.lt_iff_toInt_lt, Int32.le_iff_toInt_le, ← Int32.toInt_inj, Int32.reduceToInt, nI_toInt] at c3 m2MDisIn; done)
          | (exfalso; simp (disch := omega) only [Int32.lt_iff_toInt_lt, Int32.le_iff_toInt_le, ← Int32.toInt_inj, Int32.reduceToInt, nI_toInt] at c3 m2MDisIn; omega)
      · refine jr_iload rfl rfl ?_
        refine jr_iload rfl rfl ?_
        refine jr_icmp_gt rfl (fun m5MDisIn => ?_) (fun m5MDisIn => ?_)
        · refine jr_ic rfl ?_
          refine jr_zret rfl rfl rfl (Nat.zero_le _) (Nat.zero_le _) ?_
          refine jr_if_eq rfl (fun _ => ?_) (fun z => absurd (by decide) z)
          refine jr_ic rfl ?_
          refine jr_iret rfl rfl (Nat.zero_le _) (Nat.zero_le _) ?_
          first
            | exact ⟨rfl, hRel0⟩
            | (exfalso; omega)
            | (exfalso; simp (disch := omega) only [Int32.lt_iff_toInt_lt, Int32.le_iff_toInt_le, ← Int32.toInt_inj, Int32.reduceToInt, nI_toInt] at c3 m2MDisIn m5MDisIn; done)
            | (exfalso; simp (disch := omega) only [Int32.lt_iff_toInt_lt, Int32.le_iff_toInt_le, ← Int32.toInt_inj, Int32.reduceToInt, nI_toInt] at c3 m2MDisIn m5MDisIn; omega)
        · refine jr_ic rfl ?_
          refine jr_goto rfl ?_
          refine jr_zret rfl rfl rfl (Nat.zero_le _) (Nat.zero_le _) ?_
          refine jr_if_eq rfl (fun z => absurd z (by decide)) (fun _ => ?_)
          refine jr_iload rfl rfl ?_
          refine jr_ic rfl ?_
          refine jr_ic rfl ?_
          refine jr_cs3 (mc' := 0) (ms' := 0) rfl jm_MD_isIn_n jm_MD_isIn_f rfl rfl rfl rfl rfl (Nat.zero_le _) (Nat.zero_le _) ?_
          show jx_W (jm_MD_isIn, _, _, _, _, _, _) _ 0 0 0 [some _, some _, some _] [] _
          refine jr_iload rfl rfl ?_
          refine jr_iload rfl rfl ?_
          refine jr_icmp_lt rfl (fun m2MDisIn_2 => ?_) (fun m2MDisIn_2 => ?_)
          · refine jr_ic rfl ?_
            refine jr_zret rfl rfl rfl (Nat.zero_le _) (Nat.zero_le _) ?_
            refine jr_if_eq rfl (fun _ => ?_) (fun z => absurd (by decide) z)
            refine jr_ic rfl ?_
            refine jr_iret rfl rfl (Nat.zero_le _) (Nat.zero_le _) ?_
            first
              | exact ⟨rfl, hRel0⟩
              | (exfalso; omega)
              | (exfalso; simp (disch := omega) only [Int32.lt_iff_toInt_lt, Int32.le_iff_toInt_le, ← Int32.toInt_inj, Int32.reduceToInt, nI_toInt] at c3 m2MDisIn m5MDisIn m2MDisIn_2; done)
              | (exfalso; simp (disch := omega) only [Int32.lt_iff_toInt_lt, Int32.le_iff_toInt_le, ← Int32.toInt_inj, Int32.reduceToInt, nI_toInt] at c3 m2MDisIn m5MDisIn m2MDisIn_2; omega)
          · refine jr_iload rfl rfl ?_
            refine jr_iload rfl rfl ?_
            refine jr_icmp_gt rfl (fun m5MDisIn_2 => ?_) (fun m5MDisIn_2 => ?_)
            · refine jr_ic rfl ?_
              refine jr_zret rfl rfl rfl (Nat.zero_le _) (Nat.zero_le _) ?_
              refine jr_if_eq rfl (fun _ => ?_) (fun z => absurd (by decide) z)
              refine jr_ic rfl ?_
              refine jr_iret rfl rfl (Nat.zero_le _) (Nat.zero_le _) ?_
              first
                | exact ⟨rfl, hRel0⟩
                | (exfalso; omega)
                | (exfalso; simp (disch := omega) only [Int32.lt_iff_toInt_lt, Int32.le_iff_toInt_le, ← Int32.toInt_inj, Int32.reduceToInt, nI_toInt] at c3 m2MDisIn m5MDisIn m2MDisIn_2 m5MDisIn_2; done)
                | (exfalso; simp (disch := omega) only [Int32.lt_iff_toInt_lt, Int32.le_iff_toInt_le, ← Int32.toInt_inj, Int32.reduceToInt, nI_toInt] at c3 m2MDisIn m5MDisIn m2MDisIn_2 m5MDisIn_2; omega)
            · refine jr_ic rfl ?_
              refine jr_goto rfl ?_
              refine jr_zret rfl rfl rfl (Nat.zero_le _) (Nat.zero_le _) ?_
              refine jr_if_eq rfl (fun z => absurd z (by decide)) (fun _ => ?_)
              refine jr_aload rfl rfl ?_
              refine jr_cv0 (mc' := 0) (ms' := 0) rfl jm_MD_hasMonths_n jm_MD_hasMonths_f rfl rfl rfl rfl rfl rfl rfl (Nat.zero_le _) (Nat.zero_le _) ?_
              show jx_W (jm_MD_hasMonths, _, _, _, _, _, _) _ 0 0 0 [some _] [] _
              refine jr_aload rfl rfl ?_
              refine jr_getR rfl rfl rfl rfl (Or.inl rfl) ?_
              refine jr_aload rfl rfl ?_
              refine jr_getI rfl rfl ?_
              refine jr_iald (len := 2) rfl rfl hw.1 (by omega) ?_
              refine jr_if_le rfl (fun m5MDhasMonths => ?_) (fun m5MDhasMonths => ?_)
              · refine jr_ic rfl ?_
                refine jr_zret rfl rfl rfl (Nat.zero_le _) (Nat.zero_le _) ?_
                refine jr_if_eq rfl (fun _ => ?_) (fun z => absurd (by decide) z)
                refine jr_ic rfl ?_
                refine jr_iret rfl rfl (Nat.zero_le _) (Nat.zero_le _) ?_
                first
                  | exact ⟨rfl, hRel0⟩
                  | (exfalso; omega)
                  | (exfalso; simp (disch := omega) only [Int32.lt_iff_toInt_lt, Int32.le_iff_toInt_le, ← Int32.toInt_inj, Int32.reduceToInt, nI_toInt] at c3 m2MDisIn m5MDisIn m2MDisIn_2 m5MDisIn_2 m5MDhasMonths; done)
                  | (exfalso; simp (disch := omega) only [Int32.lt_iff_toInt_lt, Int32.le_iff_toInt_le, ← Int32.toInt_inj, Int32.reduceToInt, nI_toInt] at c3 m2MDisIn m5MDisIn m2MDisIn_2 m5MDisIn_2 m5MDhasMonths; omega)
              · refine jr_ic rfl ?_
                refine jr_goto rfl ?_
                refine jr_zret rfl rfl rfl (Nat.zero_le _) (Nat.zero_le _) ?_
                refine jr_if_eq rfl (fun z => absurd z (by decide)) (fun _ => ?_)
                refine jr_iload rfl rfl ?_
                refine jr_ic rfl ?_
                refine jr_icmp_ne rfl (fun m15 => ?_) (fun m15 => ?_)
                · refine jr_aload rfl rfl ?_
                  refine jr_cv0 (mc' := 0) (ms' := 0) rfl jm_MD_keepHead_n jm_MD_keepHead_f rfl rfl rfl rfl rfl rfl rfl (Nat.zero_le _) (Nat.zero_le _) ?_
                  first
                    | (exfalso; omega)
                    | (exfalso; simp (disch := omega) only [Int32.lt_iff_toInt_lt, Int32.le_iff_toInt_le, ← Int32.toInt_inj, Int32.reduceToInt, nI_toInt] at c3 m2MDisIn m5MDisIn m2MDisIn_2 m5MDisIn_2 m5MDhasMonths m15; done)
                    | (exfalso; simp (disch := omega) only [Int32.lt_iff_toInt_lt, Int32.le_iff_toInt_le, ← Int32.toInt_inj, Int32.reduceToInt, nI_toInt] at c3 m2MDisIn m5MDisIn m2MDisIn_2 m5MDisIn_2 m5MDhasMonths m15; omega)
                · refine jr_aload rfl rfl ?_
                  refine jr_iload rfl rfl ?_
                  refine jr_cv1 (mc' := 0) (ms' := 0) rfl jm_MD_isPerson_n jm_MD_isPerson_f rfl rfl rfl rfl rfl rfl rfl (Nat.zero_le _) (Nat.zero_le _) ?_
                  show jx_W (jm_MD_isPerson, _, _, _, _, _, _) _ 0 0 0 [some _, some _] [] _
                  refine jr_iload rfl rfl ?_
                  refine jr_ic rfl ?_
                  refine jr_aload rfl rfl ?_
                  refine jr_cv0 (mc' := 0) (ms' := 0) rfl jm_MD_personMany_n jm_MD_personMany_f rfl rfl rfl rfl rfl rfl rfl (Nat.zero_le _) (Nat.zero_le _) ?_
                  show jx_W (jm_MD_personMany, _, _, _, _, _, _) _ 0 0 0 [some _] [] _
                  refine jr_aload rfl rfl ?_
                  refine jr_getR rfl rfl rfl rfl (Or.inl rfl) ?_
                  refine jr_aload rfl rfl ?_
                  refine jr_getI rfl rfl ?_
                  refine jr_iald (len := 2) rfl rfl hw.1 (by omega) ?_
                  refine jr_iret rfl rfl (Nat.zero_le _) (Nat.zero_le _) ?_
                  refine jr_ic rfl ?_
                  refine jr_isub rfl ?_
                  refine jr_cs3 (mc' := 0) (ms' := 0) rfl jm_MD_isIn_n jm_MD_isIn_f rfl rfl rfl rfl rfl (Nat.zero_le _) (Nat.zero_le _) ?_
                  show jx_W (jm_MD_isIn, _, _, _, _, _, _) _ 0 0 0 [some _, some _, some _] [] _
                  refine jr_iload rfl rfl ?_
                  refine jr_iload rfl rfl ?_
                  refine jr_icmp_lt rfl (fun m2MDisIn_3 => ?_) (fun m2MDisIn_3 => ?_)
                  · refine jr_ic rfl ?_
                    refine jr_zret rfl rfl rfl (Nat.zero_le _) (Nat.zero_le _) ?_
                    refine jr_zret rfl rfl rfl (Nat.zero_le _) (Nat.zero_le _) ?_
                    refine jr_if_ne rfl (fun z => absurd (by decide) z) (fun _ => ?_)
                    refine jr_ic rfl ?_
                    refine jr_iret rfl rfl (Nat.zero_le _) (Nat.zero_le _) ?_
                    first
                      | exact ⟨rfl, hRel0⟩
                      | (exfalso; omega)
                      | (exfalso; simp (disch := omega) only [Int32.lt_iff_toInt_lt, Int32.le_iff_toInt_le, ← Int32.toInt_inj, Int32.reduceToInt, nI_toInt] at c3 m2MDisIn m5MDisIn m2MDisIn_2 m5MDisIn_2 m5MDhasMonths m15 m2MDisIn_3; done)
                      | (exfalso; simp (disch := omega) only [Int32.lt_iff_toInt_lt, Int32.le_iff_toInt_le, ← Int32.toInt_inj, Int32.reduceToInt, nI_toInt] at c3 m2MDisIn m5MDisIn m2MDisIn_2 m5MDisIn_2 m5MDhasMonths m15 m2MDisIn_3; omega)
                  · refine jr_iload rfl rfl ?_
                    refine jr_iload rfl rfl ?_
                    refine jr_icmp_gt rfl (fun m5MDisIn_3 => ?_) (fun m5MDisIn_3 => ?_)
                    · refine jr_ic rfl ?_
                      refine jr_zret rfl rfl rfl (Nat.zero_le _) (Nat.zero_le _) ?_
                      refine jr_zret rfl rfl rfl (Nat.zero_le _) (Nat.zero_le _) ?_
                      refine jr_if_ne rfl (fun z => absurd (by decide) z) (fun _ => ?_)
                      refine jr_ic rfl ?_
                      refine jr_iret rfl rfl (Nat.zero_le _) (Nat.zero_le _) ?_
                      first
                        | exact ⟨rfl, hRel0⟩
                        | (exfalso; omega)
                        | (exfalso; simp (disch := omega) only [Int32.lt_iff_toInt_lt, Int32.le_iff_toInt_le, ← Int32.toInt_inj, Int32.reduceToInt, nI_toInt] at c3 m2MDisIn m5MDisIn m2MDisIn_2 m5MDisIn_2 m5MDhasMonths m15 m2MDisIn_3 m5MDisIn_3; done)
                        | (exfalso; simp (disch := omega) only [Int32.lt_iff_toInt_lt, Int32.le_iff_toInt_le, ← Int32.toInt_inj, Int32.reduceToInt, nI_toInt] at c3 m2MDisIn m5MDisIn m2MDisIn_2 m5MDisIn_2 m5MDhasMonths m15 m2MDisIn_3 m5MDisIn_3; omega)
                    · refine jr_ic rfl ?_
                      refine jr_goto rfl ?_
                      refine jr_zret rfl rfl rfl (Nat.zero_le _) (Nat.zero_le _) ?_
                      refine jr_zret rfl rfl rfl (Nat.zero_le _) (Nat.zero_le _) ?_
                      refine jr_if_ne rfl (fun _ => ?_) (fun z => absurd z (by decide))
                      refine jr_aload rfl rfl ?_
                      refine jr_cv0 (mc' := 0) (ms' := 0) rfl jm_MD_keepHead_n jm_MD_keepHead_f rfl rfl rfl rfl rfl rfl rfl (Nat.zero_le _) (Nat.zero_le _) ?_
                      first
                        | (exfalso; omega)
                        | (exfalso; simp (disch := omega) only [Int32.lt_iff_toInt_lt, Int32.le_iff_toInt_le, ← Int32.toInt_inj, Int32.reduceToInt, nI_toInt] at c3 m2MDisIn m5MDisIn m2MDisIn_2 m5MDisIn_2 m5MDhasMonths m15 m2MDisIn_3 m5MDisIn_3; done)
                        | (exfalso; simp (disch := omega) only [Int32.lt_iff_toInt_lt, Int32.le_iff_toInt_le, ← Int32.toInt_inj, Int32.reduceToInt, nI_toInt] at c3 m2MDisIn m5MDisIn m2MDisIn_2 m5MDisIn_2 m5MDhasMonths m15 m2MDisIn_3 m5MDisIn_3; omega)
    · refine jr_iload rfl rfl ?_
      refine jr_if_lt rfl (fun c5 => ?_) (fun c5 => ?_)
      · refine jr_ic rfl ?_
        refine jr_iret rfl rfl (Nat.zero_le _) (Nat.zero_le _) ?_
        show jx_W (jm_MD_ahead, d + 40, 0, 0, false, 1, _) _ 0 0 0 [some _, some _, some _, some _, none, none] [] _
        refine jr_iload rfl rfl ?_
        refine jr_ic rfl ?_
        refine jr_ic rfl ?_
        refine jr_cs3 (mc' := 0) (ms' := 0) rfl jm_MD_isIn_n jm_MD_isIn_f rfl rfl rfl rfl rfl (Nat.zero_le _) (Nat.zero_le _) ?_
        show jx_W (jm_MD_isIn, _, _, _, _, _, _) _ 0 0 0 [some _, some _, some _] [] _
        refine jr_iload rfl rfl ?_
        refine jr_iload rfl rfl ?_
        refine jr_icmp_lt rfl (fun m2MDisIn => ?_) (fun m2MDisIn => ?_)
        · refine jr_ic rfl ?_
          refine jr_zret rfl rfl rfl (Nat.zero_le _) (Nat.zero_le _) ?_
          refine jr_if_eq rfl (fun _ => ?_) (fun z => absurd (by decide) z)
          refine jr_ic rfl ?_
          refine jr_iret rfl rfl (Nat.zero_le _) (Nat.zero_le _) ?_
          first
            | exact ⟨rfl, hRel0⟩
            | (exfalso; omega)
            | (exfalso; simp (disch := omega) only [Int32.lt_iff_toInt_lt, Int32.le_iff_toInt_le, ← Int32.toInt_inj, Int32.reduceToInt, nI_toInt] at c3 c5 m2MDisIn; done)
            | (exfalso; simp (disch := omega) only [Int32.lt_iff_toInt_lt, Int32.le_iff_toInt_le, ← Int32.toInt_inj, Int32.reduceToInt, nI_toInt] at c3 c5 m2MDisIn; omega)
        · refine jr_iload rfl rfl ?_
          refine jr_iload rfl rfl ?_
          refine jr_icmp_gt rfl (fun m5MDisIn => ?_) (fun m5MDisIn => ?_)
          · refine jr_ic rfl ?_
            refine jr_zret rfl rfl rfl (Nat.zero_le _) (Nat.zero_le _) ?_
            refine jr_if_eq rfl (fun _ => ?_) (fun z => absurd (by decide) z)
            refine jr_ic rfl ?_
            refine jr_iret rfl rfl (Nat.zero_le _) (Nat.zero_le _) ?_
            first
              | exact ⟨rfl, hRel0⟩
              | (exfalso; omega)
              | (exfalso; simp (disch := omega) only [Int32.lt_iff_toInt_lt, Int32.le_iff_toInt_le, ← Int32.toInt_inj, Int32.reduceToInt, nI_toInt] at c3 c5 m2MDisIn m5MDisIn; done)
              | (exfalso; simp (disch := omega) only [Int32.lt_iff_toInt_lt, Int32.le_iff_toInt_le, ← Int32.toInt_inj, Int32.reduceToInt, nI_toInt] at c3 c5 m2MDisIn m5MDisIn; omega)
          · refine jr_ic rfl ?_
            refine jr_goto rfl ?_
            refine jr_zret rfl rfl rfl (Nat.zero_le _) (Nat.zero_le _) ?_
            refine jr_if_eq rfl (fun z => absurd z (by decide)) (fun _ => ?_)
            refine jr_iload rfl rfl ?_
            refine jr_ic rfl ?_
            refine jr_ic rfl ?_
            refine jr_cs3 (mc' := 0) (ms' := 0) rfl jm_MD_isIn_n jm_MD_isIn_f rfl rfl rfl rfl rfl (Nat.zero_le _) (Nat.zero_le _) ?_
            show jx_W (jm_MD_isIn, _, _, _, _, _, _) _ 0 0 0 [some _, some _, some _] [] _
            refine jr_iload rfl rfl ?_
            refine jr_iload rfl rfl ?_
            refine jr_icmp_lt rfl (fun m2MDisIn_2 => ?_) (fun m2MDisIn_2 => ?_)
            · refine jr_ic rfl ?_
              refine jr_zret rfl rfl rfl (Nat.zero_le _) (Nat.zero_le _) ?_
              refine jr_if_eq rfl (fun _ => ?_) (fun z => absurd (by decide) z)
              refine jr_ic rfl ?_
              refine jr_iret rfl rfl (Nat.zero_le _) (Nat.zero_le _) ?_
              first
                | exact ⟨rfl, hRel0⟩
                | (exfalso; omega)
                | (exfalso; simp (disch := omega) only [Int32.lt_iff_toInt_lt, Int32.le_iff_toInt_le, ← Int32.toInt_inj, Int32.reduceToInt, nI_toInt] at c3 c5 m2MDisIn m5MDisIn m2MDisIn_2; done)
                | (exfalso; simp (disch := omega) only [Int32.lt_iff_toInt_lt, Int32.le_iff_toInt_le, ← Int32.toInt_inj, Int32.reduceToInt, nI_toInt] at c3 c5 m2MDisIn m5MDisIn m2MDisIn_2; omega)
            · refine jr_iload rfl rfl ?_
              refine jr_iload rfl rfl ?_
              refine jr_icmp_gt rfl (fun m5MDisIn_2 => ?_) (fun m5MDisIn_2 => ?_)
              · refine jr_ic rfl ?_
                refine jr_zret rfl rfl rfl (Nat.zero_le _) (Nat.zero_le _) ?_
                refine jr_if_eq rfl (fun _ => ?_) (fun z => absurd (by decide) z)
                refine jr_ic rfl ?_
                refine jr_iret rfl rfl (Nat.zero_le _) (Nat.zero_le _) ?_
                first
                  | exact ⟨rfl, hRel0⟩
                  | (exfalso; omega)
                  | (exfalso; simp (disch := omega) only [Int32.lt_iff_toInt_lt, Int32.le_iff_toInt_le, ← Int32.toInt_inj, Int32.reduceToInt, nI_toInt] at c3 c5 m2MDisIn m5MDisIn m2MDisIn_2 m5MDisIn_2; done)
                  | (exfalso; simp (disch := omega) only [Int32.lt_iff_toInt_lt, Int32.le_iff_toInt_le, ← Int32.toInt_inj, Int32.reduceToInt, nI_toInt] at c3 c5 m2MDisIn m5MDisIn m2MDisIn_2 m5MDisIn_2; omega)
              · refine jr_ic rfl ?_
                refine jr_goto rfl ?_
                refine jr_zret rfl rfl rfl (Nat.zero_le _) (Nat.zero_le _) ?_
                refine jr_if_eq rfl (fun z => absurd z (by decide)) (fun _ => ?_)
                refine jr_aload rfl rfl ?_
                refine jr_cv0 (mc' := 0) (ms' := 0) rfl jm_MD_hasMonths_n jm_MD_hasMonths_f rfl rfl rfl rfl rfl rfl rfl (Nat.zero_le _) (Nat.zero_le _) ?_
                show jx_W (jm_MD_hasMonths, _, _, _, _, _, _) _ 0 0 0 [some _] [] _
                refine jr_aload rfl rfl ?_
                refine jr_getR rfl rfl rfl rfl (Or.inl rfl) ?_
                refine jr_aload rfl rfl ?_
                refine jr_getI rfl rfl ?_
                refine jr_iald (len := 2) rfl rfl hw.1 (by omega) ?_
                refine jr_if_le rfl (fun m5MDhasMonths => ?_) (fun m5MDhasMonths => ?_)
                · refine jr_ic rfl ?_
                  refine jr_zret rfl rfl rfl (Nat.zero_le _) (Nat.zero_le _) ?_
                  refine jr_if_eq rfl (fun _ => ?_) (fun z => absurd (by decide) z)
                  refine jr_ic rfl ?_
                  refine jr_iret rfl rfl (Nat.zero_le _) (Nat.zero_le _) ?_
                  first
                    | exact ⟨rfl, hRel0⟩
                    | (exfalso; omega)
                    | (exfalso; simp (disch := omega) only [Int32.lt_iff_toInt_lt, Int32.le_iff_toInt_le, ← Int32.toInt_inj, Int32.reduceToInt, nI_toInt] at c3 c5 m2MDisIn m5MDisIn m2MDisIn_2 m5MDisIn_2 m5MDhasMonths; done)
                    | (exfalso; simp (disch := omega) only [Int32.lt_iff_toInt_lt, Int32.le_iff_toInt_le, ← Int32.toInt_inj, Int32.reduceToInt, nI_toInt] at c3 c5 m2MDisIn m5MDisIn m2MDisIn_2 m5MDisIn_2 m5MDhasMonths; omega)
                · refine jr_ic rfl ?_
                  refine jr_goto rfl ?_
                  refine jr_zret rfl rfl rfl (Nat.zero_le _) (Nat.zero_le _) ?_
                  refine jr_if_eq rfl (fun z => absurd z (by decide)) (fun _ => ?_)
                  refine jr_iload rfl rfl ?_
                  refine jr_ic rfl ?_
                  refine jr_icmp_ne rfl (fun m15 => ?_) (fun m15 => ?_)
                  · refine jr_aload rfl rfl ?_
                    refine jr_cv0 (mc' := 0) (ms' := 0) rfl jm_MD_keepHead_n jm_MD_keepHead_f rfl rfl rfl rfl rfl rfl rfl (Nat.zero_le _) (Nat.zero_le _) ?_
                    first
                      | (exfalso; omega)
                      | (exfalso; simp (disch := omega) only [Int32.lt_iff_toInt_lt, Int32.le_iff_toInt_le, ← Int32.toInt_inj, Int32.reduceToInt, nI_toInt] at c3 c5 m2MDisIn m5MDisIn m2MDisIn_2 m5MDisIn_2 m5MDhasMonths m15; done)
                      | (exfalso; simp (disch := omega) only [Int32.lt_iff_toInt_lt, Int32.le_iff_toInt_le, ← Int32.toInt_inj, Int32.reduceToInt, nI_toInt] at c3 c5 m2MDisIn m5MDisIn m2MDisIn_2 m5MDisIn_2 m5MDhasMonths m15; omega)
                  · refine jr_aload rfl rfl ?_
                    refine jr_iload rfl rfl ?_
                    refine jr_cv1 (mc' := 0) (ms' := 0) rfl jm_MD_isPerson_n jm_MD_isPerson_f rfl rfl rfl rfl rfl rfl rfl (Nat.zero_le _) (Nat.zero_le _) ?_
                    show jx_W (jm_MD_isPerson, _, _, _, _, _, _) _ 0 0 0 [some _, some _] [] _
                    refine jr_iload rfl rfl ?_
                    refine jr_ic rfl ?_
                    refine jr_aload rfl rfl ?_
                    refine jr_cv0 (mc' := 0) (ms' := 0) rfl jm_MD_personMany_n jm_MD_personMany_f rfl rfl rfl rfl rfl rfl rfl (Nat.zero_le _) (Nat.zero_le _) ?_
                    show jx_W (jm_MD_personMany, _, _, _, _, _, _) _ 0 0 0 [some _] [] _
                    refine jr_aload rfl rfl ?_
                    refine jr_getR rfl rfl rfl rfl (Or.inl rfl) ?_
                    refine jr_aload rfl rfl ?_
                    refine jr_getI rfl rfl ?_
                    refine jr_iald (len := 2) rfl rfl hw.1 (by omega) ?_
                    refine jr_iret rfl rfl (Nat.zero_le _) (Nat.zero_le _) ?_
                    refine jr_ic rfl ?_
                    refine jr_isub rfl ?_
                    refine jr_cs3 (mc' := 0) (ms' := 0) rfl jm_MD_isIn_n jm_MD_isIn_f rfl rfl rfl rfl rfl (Nat.zero_le _) (Nat.zero_le _) ?_
                    show jx_W (jm_MD_isIn, _, _, _, _, _, _) _ 0 0 0 [some _, some _, some _] [] _
                    refine jr_iload rfl rfl ?_
                    refine jr_iload rfl rfl ?_
                    refine jr_icmp_lt rfl (fun m2MDisIn_3 => ?_) (fun m2MDisIn_3 => ?_)
                    · refine jr_ic rfl ?_
                      refine jr_zret rfl rfl rfl (Nat.zero_le _) (Nat.zero_le _) ?_
                      refine jr_zret rfl rfl rfl (Nat.zero_le _) (Nat.zero_le _) ?_
                      refine jr_if_ne rfl (fun z => absurd (by decide) z) (fun _ => ?_)
                      refine jr_ic rfl ?_
                      refine jr_iret rfl rfl (Nat.zero_le _) (Nat.zero_le _) ?_
                      first
                        | exact ⟨rfl, hRel0⟩
                        | (exfalso; omega)
                        | (exfalso; simp (disch := omega) only [Int32.lt_iff_toInt_lt, Int32.le_iff_toInt_le, ← Int32.toInt_inj, Int32.reduceToInt, nI_toInt] at c3 c5 m2MDisIn m5MDisIn m2MDisIn_2 m5MDisIn_2 m5MDhasMonths m15 m2MDisIn_3; done)
                        | (exfalso; simp (disch := omega) only [Int32.lt_iff_toInt_lt, Int32.le_iff_toInt_le, ← Int32.toInt_inj, Int32.reduceToInt, nI_toInt] at c3 c5 m2MDisIn m5MDisIn m2MDisIn_2 m5MDisIn_2 m5MDhasMonths m15 m2MDisIn_3; omega)
                    · refine jr_iload rfl rfl ?_
                      refine jr_iload rfl rfl ?_
                      refine jr_icmp_gt rfl (fun m5MDisIn_3 => ?_) (fun m5MDisIn_3 => ?_)
                      · refine jr_ic rfl ?_
                        refine jr_zret rfl rfl rfl (Nat.zero_le _) (Nat.zero_le _) ?_
                        refine jr_zret rfl rfl rfl (Nat.zero_le _) (Nat.zero_le _) ?_
                        refine jr_if_ne rfl (fun z => absurd (by decide) z) (fun _ => ?_)
                        refine jr_ic rfl ?_
                        refine jr_iret rfl rfl (Nat.zero_le _) (Nat.zero_le _) ?_
                        first
                          | exact ⟨rfl, hRel0⟩
                          | (exfalso; omega)
                          | (exfalso; simp (disch := omega) only [Int32.lt_iff_toInt_lt, Int32.le_iff_toInt_le, ← Int32.toInt_inj, Int32.reduceToInt, nI_toInt] at c3 c5 m2MDisIn m5MDisIn m2MDisIn_2 m5MDisIn_2 m5MDhasMonths m15 m2MDisIn_3 m5MDisIn_3; done)
                          | (exfalso; simp (disch := omega) only [Int32.lt_iff_toInt_lt, Int32.le_iff_toInt_le, ← Int32.toInt_inj, Int32.reduceToInt, nI_toInt] at c3 c5 m2MDisIn m5MDisIn m2MDisIn_2 m5MDisIn_2 m5MDhasMonths m15 m2MDisIn_3 m5MDisIn_3; omega)
                      · refine jr_ic rfl ?_
                        refine jr_goto rfl ?_
                        refine jr_zret rfl rfl rfl (Nat.zero_le _) (Nat.zero_le _) ?_
                        refine jr_zret rfl rfl rfl (Nat.zero_le _) (Nat.zero_le _) ?_
                        refine jr_if_ne rfl (fun _ => ?_) (fun z => absurd z (by decide))
                        refine jr_aload rfl rfl ?_
                        refine jr_cv0 (mc' := 0) (ms' := 0) rfl jm_MD_keepHead_n jm_MD_keepHead_f rfl rfl rfl rfl rfl rfl rfl (Nat.zero_le _) (Nat.zero_le _) ?_
                        first
                          | (exfalso; omega)
                          | (exfalso; simp (disch := omega) only [Int32.lt_iff_toInt_lt, Int32.le_iff_toInt_le, ← Int32.toInt_inj, Int32.reduceToInt, nI_toInt] at c3 c5 m2MDisIn m5MDisIn m2MDisIn_2 m5MDisIn_2 m5MDhasMonths m15 m2MDisIn_3 m5MDisIn_3; done)
                          | (exfalso; simp (disch := omega) only [Int32.lt_iff_toInt_lt, Int32.le_iff_toInt_le, ← Int32.toInt_inj, Int32.reduceToInt, nI_toInt] at c3 c5 m2MDisIn m5MDisIn m2MDisIn_2 m5MDisIn_2 m5MDhasMonths m15 m2MDisIn_3 m5MDisIn_3; omega)
      · refine jr_iload rfl rfl ?_
        refine jr_ic rfl ?_
        refine jr_icmp_le rfl (fun c8 => ?_) (fun c8 => ?_)
        · refine jr_iload rfl rfl ?_
          refine jr_tsw rfl ?_
          refine ⟨fun c12 => ?_, fun n12_0 => ?_⟩
          · refine jr_aload rfl rfl ?_
            refine jr_getR rfl rfl rfl rfl (Or.inl rfl) ?_
            refine jr_aload rfl rfl ?_
            refine jr_getR rfl rfl rfl rfl (Or.inl rfl) ?_
            refine jr_iload rfl rfl ?_
            refine jr_cv2 (mc' := 0) (ms' := 0) rfl jm_For_daysAhead_n jm_For_daysAhead_f rfl rfl rfl rfl rfl rfl rfl (Nat.zero_le _) (Nat.zero_le _) ?_
            show jx_W (jm_For_daysAhead, _, _, _, _, _, _) _ 0 0 0 [some _, some _, some _] [] _
            refine jr_aload rfl rfl ?_
            refine jr_aload rfl rfl ?_
            refine jr_iload rfl rfl ?_
            refine jr_cv2 (mc' := 0) (ms' := 0) rfl jm_For_stepFrom_n jm_For_stepFrom_f rfl rfl rfl rfl rfl rfl rfl (Nat.zero_le _) (Nat.zero_le _) ?_
            first
              | (exfalso; omega)
              | (exfalso; simp (disch := omega) only [Int32.lt_iff_toInt_lt, Int32.le_iff_toInt_le, ← Int32.toInt_inj, Int32.reduceToInt, nI_toInt] at c3 c5 c8 c12; done)
              | (exfalso; simp (disch := omega) only [Int32.lt_iff_toInt_lt, Int32.le_iff_toInt_le, ← Int32.toInt_inj, Int32.reduceToInt, nI_toInt] at c3 c5 c8 c12; omega)
          · skip
            refine ⟨fun c12 => ?_, fun n12_1 => ?_⟩
            · refine jr_aload rfl rfl ?_
              refine jr_getR rfl rfl rfl rfl (Or.inl rfl) ?_
              refine jr_aload rfl rfl ?_
              refine jr_getR rfl rfl rfl rfl (Or.inl rfl) ?_
              refine jr_iload rfl rfl ?_
              refine jr_cv2 (mc' := 0) (ms' := 0) rfl jm_For_lapsesAhead_n jm_For_lapsesAhead_f rfl rfl rfl rfl rfl rfl rfl (Nat.zero_le _) (Nat.zero_le _) ?_
              show jx_W (jm_For_lapsesAhead, _, _, _, _, _, _) _ 0 0 0 [some _, some _, some _, none, none] [] _
              refine jr_aload rfl rfl ?_
              refine jr_aload rfl rfl ?_
              refine jr_iload rfl rfl ?_
              refine jr_cv2 (mc' := 0) (ms' := 0) rfl jm_For_stepFrom_n jm_For_stepFrom_f rfl rfl rfl rfl rfl rfl rfl (Nat.zero_le _) (Nat.zero_le _) ?_
              first
                | (exfalso; omega)
                | (exfalso; simp (disch := omega) only [Int32.lt_iff_toInt_lt, Int32.le_iff_toInt_le, ← Int32.toInt_inj, Int32.reduceToInt, nI_toInt] at c3 c5 c8 c12; done)
                | (exfalso; simp (disch := omega) only [Int32.lt_iff_toInt_lt, Int32.le_iff_toInt_le, ← Int32.toInt_inj, Int32.reduceToInt, nI_toInt] at c3 c5 c8 c12; omega)
            · skip
              refine ⟨fun c12 => ?_, fun n12_2 => ?_⟩
              · refine jr_aload rfl rfl ?_
                refine jr_getM rfl rfl rfl rfl hto ?_
                refine jr_iload rfl rfl ?_
                refine jr_cv1 (mc' := 0) (ms' := 0) rfl jm_Rep_hasPerson_n jm_Rep_hasPerson_f rfl rfl rfl rfl rfl rfl rfl (Nat.zero_le _) (Nat.zero_le _) ?_
                show jx_W (jm_Rep_hasPerson, _, _, _, _, _, _) _ 0 0 0 [some _, some _] [] _
                refine jr_iload rfl rfl ?_
                refine jr_if_lt rfl (fun c1RephasPerson => ?_) (fun c1RephasPerson => ?_)
                · refine jr_ic rfl ?_
                  refine jr_zret rfl rfl rfl (Nat.zero_le _) (Nat.zero_le _) ?_
                  refine jr_if_eq rfl (fun _ => ?_) (fun z => absurd (by decide) z)
                  refine jr_ic rfl ?_
                  refine jr_iret rfl rfl (Nat.zero_le _) (Nat.zero_le _) ?_
                  show jx_W (jm_MD_ahead, d + 40, 0, 0, false, 1, _) _ 0 0 0 [some _, some _, some _, some _, none, none] [] _
                  refine jr_iload rfl rfl ?_
                  refine jr_ic rfl ?_
                  refine jr_ic rfl ?_
                  refine jr_cs3 (mc' := 0) (ms' := 0) rfl jm_MD_isIn_n jm_MD_isIn_f rfl rfl rfl rfl rfl (Nat.zero_le _) (Nat.zero_le _) ?_
                  show jx_W (jm_MD_isIn, _, _, _, _, _, _) _ 0 0 0 [some _, some _, some _] [] _
                  refine jr_iload rfl rfl ?_
                  refine jr_iload rfl rfl ?_
                  refine jr_icmp_lt rfl (fun m2MDisIn => ?_) (fun m2MDisIn => ?_)
                  · refine jr_ic rfl ?_
                    refine jr_zret rfl rfl rfl (Nat.zero_le _) (Nat.zero_le _) ?_
                    refine jr_if_eq rfl (fun _ => ?_) (fun z => absurd (by decide) z)
                    refine jr_ic rfl ?_
                    refine jr_iret rfl rfl (Nat.zero_le _) (Nat.zero_le _) ?_
                    first
                      | exact ⟨rfl, hRel0⟩
                      | (exfalso; omega)
                      | (exfalso; simp (disch := omega) only [Int32.lt_iff_toInt_lt, Int32.le_iff_toInt_le, ← Int32.toInt_inj, Int32.reduceToInt, nI_toInt] at c3 c5 c8 c12 c1RephasPerson m2MDisIn; done)
                      | (exfalso; simp (disch := omega) only [Int32.lt_iff_toInt_lt, Int32.le_iff_toInt_le, ← Int32.toInt_inj, Int32.reduceToInt, nI_toInt] at c3 c5 c8 c12 c1RephasPerson m2MDisIn; omega)
                  · refine jr_iload rfl rfl ?_
                    refine jr_iload rfl rfl ?_
                    refine jr_icmp_gt rfl (fun m5MDisIn => ?_) (fun m5MDisIn => ?_)
                    · refine jr_ic rfl ?_
                      refine jr_zret rfl rfl rfl (Nat.zero_le _) (Nat.zero_le _) ?_
                      refine jr_if_eq rfl (fun _ => ?_) (fun z => absurd (by decide) z)
                      refine jr_ic rfl ?_
                      refine jr_iret rfl rfl (Nat.zero_le _) (Nat.zero_le _) ?_
                      first
                        | exact ⟨rfl, hRel0⟩
                        | (exfalso; omega)
                        | (exfalso; simp (disch := omega) only [Int32.lt_iff_toInt_lt, Int32.le_iff_toInt_le, ← Int32.toInt_inj, Int32.reduceToInt, nI_toInt] at c3 c5 c8 c12 c1RephasPerson m2MDisIn m5MDisIn; done)
                        | (exfalso; simp (disch := omega) only [Int32.lt_iff_toInt_lt, Int32.le_iff_toInt_le, ← Int32.toInt_inj, Int32.reduceToInt, nI_toInt] at c3 c5 c8 c12 c1RephasPerson m2MDisIn m5MDisIn; omega)
                    · refine jr_ic rfl ?_
                      refine jr_goto rfl ?_
                      refine jr_zret rfl rfl rfl (Nat.zero_le _) (Nat.zero_le _) ?_
                      refine jr_if_eq rfl (fun z => absurd z (by decide)) (fun _ => ?_)
                      refine jr_iload rfl rfl ?_
                      refine jr_ic rfl ?_
                      refine jr_ic rfl ?_
                      refine jr_cs3 (mc' := 0) (ms' := 0) rfl jm_MD_isIn_n jm_MD_isIn_f rfl rfl rfl rfl rfl (Nat.zero_le _) (Nat.zero_le _) ?_
                      show jx_W (jm_MD_isIn, _, _, _, _, _, _) _ 0 0 0 [some _, some _, some _] [] _
                      refine jr_iload rfl rfl ?_
                      refine jr_iload rfl rfl ?_
                      refine jr_icmp_lt rfl (fun m2MDisIn_2 => ?_) (fun m2MDisIn_2 => ?_)
                      · refine jr_ic rfl ?_
                        refine jr_zret rfl rfl rfl (Nat.zero_le _) (Nat.zero_le _) ?_
                        refine jr_if_eq rfl (fun _ => ?_) (fun z => absurd (by decide) z)
                        refine jr_ic rfl ?_
                        refine jr_iret rfl rfl (Nat.zero_le _) (Nat.zero_le _) ?_
                        first
                          | exact ⟨rfl, hRel0⟩
                          | (exfalso; omega)
                          | (exfalso; simp (disch := omega) only [Int32.lt_iff_toInt_lt, Int32.le_iff_toInt_le, ← Int32.toInt_inj, Int32.reduceToInt, nI_toInt] at c3 c5 c8 c12 c1RephasPerson m2MDisIn m5MDisIn m2MDisIn_2; done)
                          | (exfalso; simp (disch := omega) only [Int32.lt_iff_toInt_lt, Int32.le_iff_toInt_le, ← Int32.toInt_inj, Int32.reduceToInt, nI_toInt] at c3 c5 c8 c12 c1RephasPerson m2MDisIn m5MDisIn m2MDisIn_2; omega)
                      · refine jr_iload rfl rfl ?_
                        refine jr_iload rfl rfl ?_
                        refine jr_icmp_gt rfl (fun m5MDisIn_2 => ?_) (fun m5MDisIn_2 => ?_)
                        · refine jr_ic rfl ?_
                          refine jr_zret rfl rfl rfl (Nat.zero_le _) (Nat.zero_le _) ?_
                          refine jr_if_eq rfl (fun _ => ?_) (fun z => absurd (by decide) z)
                          refine jr_ic rfl ?_
                          refine jr_iret rfl rfl (Nat.zero_le _) (Nat.zero_le _) ?_
                          first
                            | exact ⟨rfl, hRel0⟩
                            | (exfalso; omega)
                            | (exfalso; simp (disch := omega) only [Int32.lt_iff_toInt_lt, Int32.le_iff_toInt_le, ← Int32.toInt_inj, Int32.reduceToInt, nI_toInt] at c3 c5 c8 c12 c1RephasPerson m2MDisIn m5MDisIn m2MDisIn_2 m5MDisIn_2; done)
                            | (exfalso; simp (disch := omega) only [Int32.lt_iff_toInt_lt, Int32.le_iff_toInt_le, ← Int32.toInt_inj, Int32.reduceToInt, nI_toInt] at c3 c5 c8 c12 c1RephasPerson m2MDisIn m5MDisIn m2MDisIn_2 m5MDisIn_2; omega)
                        · refine jr_ic rfl ?_
                          refine jr_goto rfl ?_
                          refine jr_zret rfl rfl rfl (Nat.zero_le _) (Nat.zero_le _) ?_
                          refine jr_if_eq rfl (fun z => absurd z (by decide)) (fun _ => ?_)
                          refine jr_aload rfl rfl ?_
                          refine jr_cv0 (mc' := 0) (ms' := 0) rfl jm_MD_hasMonths_n jm_MD_hasMonths_f rfl rfl rfl rfl rfl rfl rfl (Nat.zero_le _) (Nat.zero_le _) ?_
                          show jx_W (jm_MD_hasMonths, _, _, _, _, _, _) _ 0 0 0 [some _] [] _
                          refine jr_aload rfl rfl ?_
                          refine jr_getR rfl rfl rfl rfl (Or.inl rfl) ?_
                          refine jr_aload rfl rfl ?_
                          refine jr_getI rfl rfl ?_
                          refine jr_iald (len := 2) rfl rfl hw.1 (by omega) ?_
                          refine jr_if_le rfl (fun m5MDhasMonths => ?_) (fun m5MDhasMonths => ?_)
                          · refine jr_ic rfl ?_
                            refine jr_zret rfl rfl rfl (Nat.zero_le _) (Nat.zero_le _) ?_
                            refine jr_if_eq rfl (fun _ => ?_) (fun z => absurd (by decide) z)
                            refine jr_ic rfl ?_
                            refine jr_iret rfl rfl (Nat.zero_le _) (Nat.zero_le _) ?_
                            first
                              | exact ⟨rfl, hRel0⟩
                              | (exfalso; omega)
                              | (exfalso; simp (disch := omega) only [Int32.lt_iff_toInt_lt, Int32.le_iff_toInt_le, ← Int32.toInt_inj, Int32.reduceToInt, nI_toInt] at c3 c5 c8 c12 c1RephasPerson m2MDisIn m5MDisIn m2MDisIn_2 m5MDisIn_2 m5MDhasMonths; done)
                              | (exfalso; simp (disch := omega) only [Int32.lt_iff_toInt_lt, Int32.le_iff_toInt_le, ← Int32.toInt_inj, Int32.reduceToInt, nI_toInt] at c3 c5 c8 c12 c1RephasPerson m2MDisIn m5MDisIn m2MDisIn_2 m5MDisIn_2 m5MDhasMonths; omega)
                          · refine jr_ic rfl ?_
                            refine jr_goto rfl ?_
                            refine jr_zret rfl rfl rfl (Nat.zero_le _) (Nat.zero_le _) ?_
                            refine jr_if_eq rfl (fun z => absurd z (by decide)) (fun _ => ?_)
                            refine jr_iload rfl rfl ?_
                            refine jr_ic rfl ?_
                            refine jr_icmp_ne rfl (fun m15 => ?_) (fun m15 => ?_)
                            · refine jr_aload rfl rfl ?_
                              refine jr_cv0 (mc' := 0) (ms' := 0) rfl jm_MD_keepHead_n jm_MD_keepHead_f rfl rfl rfl rfl rfl rfl rfl (Nat.zero_le _) (Nat.zero_le _) ?_
                              first
                                | (exfalso; omega)
                                | (exfalso; simp (disch := omega) only [Int32.lt_iff_toInt_lt, Int32.le_iff_toInt_le, ← Int32.toInt_inj, Int32.reduceToInt, nI_toInt] at c3 c5 c8 c12 c1RephasPerson m2MDisIn m5MDisIn m2MDisIn_2 m5MDisIn_2 m5MDhasMonths m15; done)
                                | (exfalso; simp (disch := omega) only [Int32.lt_iff_toInt_lt, Int32.le_iff_toInt_le, ← Int32.toInt_inj, Int32.reduceToInt, nI_toInt] at c3 c5 c8 c12 c1RephasPerson m2MDisIn m5MDisIn m2MDisIn_2 m5MDisIn_2 m5MDhasMonths m15; omega)
                            · refine jr_aload rfl rfl ?_
                              refine jr_iload rfl rfl ?_
                              refine jr_cv1 (mc' := 0) (ms' := 0) rfl jm_MD_isPerson_n jm_MD_isPerson_f rfl rfl rfl rfl rfl rfl rfl (Nat.zero_le _) (Nat.zero_le _) ?_
                              show jx_W (jm_MD_isPerson, _, _, _, _, _, _) _ 0 0 0 [some _, some _] [] _
                              refine jr_iload rfl rfl ?_
                              refine jr_ic rfl ?_
                              refine jr_aload rfl rfl ?_
                              refine jr_cv0 (mc' := 0) (ms' := 0) rfl jm_MD_personMany_n jm_MD_personMany_f rfl rfl rfl rfl rfl rfl rfl (Nat.zero_le _) (Nat.zero_le _) ?_
                              show jx_W (jm_MD_personMany, _, _, _, _, _, _) _ 0 0 0 [some _] [] _
                              refine jr_aload rfl rfl ?_
                              refine jr_getR rfl rfl rfl rfl (Or.inl rfl) ?_
                              refine jr_aload rfl rfl ?_
                              refine jr_getI rfl rfl ?_
                              refine jr_iald (len := 2) rfl rfl hw.1 (by omega) ?_
                              refine jr_iret rfl rfl (Nat.zero_le _) (Nat.zero_le _) ?_
                              refine jr_ic rfl ?_
                              refine jr_isub rfl ?_
                              refine jr_cs3 (mc' := 0) (ms' := 0) rfl jm_MD_isIn_n jm_MD_isIn_f rfl rfl rfl rfl rfl (Nat.zero_le _) (Nat.zero_le _) ?_
                              show jx_W (jm_MD_isIn, _, _, _, _, _, _) _ 0 0 0 [some _, some _, some _] [] _
                              refine jr_iload rfl rfl ?_
                              refine jr_iload rfl rfl ?_
                              refine jr_icmp_lt rfl (fun m2MDisIn_3 => ?_) (fun m2MDisIn_3 => ?_)
                              · refine jr_ic rfl ?_
                                refine jr_zret rfl rfl rfl (Nat.zero_le _) (Nat.zero_le _) ?_
                                refine jr_zret rfl rfl rfl (Nat.zero_le _) (Nat.zero_le _) ?_
                                refine jr_if_ne rfl (fun z => absurd (by decide) z) (fun _ => ?_)
                                refine jr_ic rfl ?_
                                refine jr_iret rfl rfl (Nat.zero_le _) (Nat.zero_le _) ?_
                                first
                                  | exact ⟨rfl, hRel0⟩
                                  | (exfalso; omega)
                                  | (exfalso; simp (disch := omega) only [Int32.lt_iff_toInt_lt, Int32.le_iff_toInt_le, ← Int32.toInt_inj, Int32.reduceToInt, nI_toInt] at c3 c5 c8 c12 c1RephasPerson m2MDisIn m5MDisIn m2MDisIn_2 m5MDisIn_2 m5MDhasMonths m15 m2MDisIn_3; done)
                                  | (exfalso; simp (disch := omega) only [Int32.lt_iff_toInt_lt, Int32.le_iff_toInt_le, ← Int32.toInt_inj, Int32.reduceToInt, nI_toInt] at c3 c5 c8 c12 c1RephasPerson m2MDisIn m5MDisIn m2MDisIn_2 m5MDisIn_2 m5MDhasMonths m15 m2MDisIn_3; omega)
                              · refine jr_iload rfl rfl ?_
                                refine jr_iload rfl rfl ?_
                                refine jr_icmp_gt rfl (fun m5MDisIn_3 => ?_) (fun m5MDisIn_3 => ?_)
                                · refine jr_ic rfl ?_
                                  refine jr_zret rfl rfl rfl (Nat.zero_le _) (Nat.zero_le _) ?_
                                  refine jr_zret rfl rfl rfl (Nat.zero_le _) (Nat.zero_le _) ?_
                                  refine jr_if_ne rfl (fun z => absurd (by decide) z) (fun _ => ?_)
                                  refine jr_ic rfl ?_
                                  refine jr_iret rfl rfl (Nat.zero_le _) (Nat.zero_le _) ?_
                                  first
                                    | exact ⟨rfl, hRel0⟩
                                    | (exfalso; omega)
                                    | (exfalso; simp (disch := omega) only [Int32.lt_iff_toInt_lt, Int32.le_iff_toInt_le, ← Int32.toInt_inj, Int32.reduceToInt, nI_toInt] at c3 c5 c8 c12 c1RephasPerson m2MDisIn m5MDisIn m2MDisIn_2 m5MDisIn_2 m5MDhasMonths m15 m2MDisIn_3 m5MDisIn_3; done)
                                    | (exfalso; simp (disch := omega) only [Int32.lt_iff_toInt_lt, Int32.le_iff_toInt_le, ← Int32.toInt_inj, Int32.reduceToInt, nI_toInt] at c3 c5 c8 c12 c1RephasPerson m2MDisIn m5MDisIn m2MDisIn_2 m5MDisIn_2 m5MDhasMonths m15 m2MDisIn_3 m5MDisIn_3; omega)
                                · refine jr_ic rfl ?_
                                  refine jr_goto rfl ?_
                                  refine jr_zret rfl rfl rfl (Nat.zero_le _) (Nat.zero_le _) ?_
                                  refine jr_zret rfl rfl rfl (Nat.zero_le _) (Nat.zero_le _) ?_
                                  refine jr_if_ne rfl (fun _ => ?_) (fun z => absurd z (by decide))
                                  refine jr_aload rfl rfl ?_
                                  refine jr_cv0 (mc' := 0) (ms' := 0) rfl jm_MD_keepHead_n jm_MD_keepHead_f rfl rfl rfl rfl rfl rfl rfl (Nat.zero_le _) (Nat.zero_le _) ?_
                                  first
                                    | (exfalso; omega)
                                    | (exfalso; simp (disch := omega) only [Int32.lt_iff_toInt_lt, Int32.le_iff_toInt_le, ← Int32.toInt_inj, Int32.reduceToInt, nI_toInt] at c3 c5 c8 c12 c1RephasPerson m2MDisIn m5MDisIn m2MDisIn_2 m5MDisIn_2 m5MDhasMonths m15 m2MDisIn_3 m5MDisIn_3; done)
                                    | (exfalso; simp (disch := omega) only [Int32.lt_iff_toInt_lt, Int32.le_iff_toInt_le, ← Int32.toInt_inj, Int32.reduceToInt, nI_toInt] at c3 c5 c8 c12 c1RephasPerson m2MDisIn m5MDisIn m2MDisIn_2 m5MDisIn_2 m5MDhasMonths m15 m2MDisIn_3 m5MDisIn_3; omega)
                · refine jr_iload rfl rfl ?_
                  refine jr_aload rfl rfl ?_
                  refine jr_getI rfl rfl ?_
                  refine jr_icmp_ge rfl (fun c5RephasPerson => ?_) (fun c5RephasPerson => ?_)
                  · refine jr_ic rfl ?_
                    refine jr_zret rfl rfl rfl (Nat.zero_le _) (Nat.zero_le _) ?_
                    refine jr_if_eq rfl (fun _ => ?_) (fun z => absurd (by decide) z)
                    refine jr_ic rfl ?_
                    refine jr_iret rfl rfl (Nat.zero_le _) (Nat.zero_le _) ?_
                    show jx_W (jm_MD_ahead, d + 40, 0, 0, false, 1, _) _ 0 0 0 [some _, some _, some _, some _, none, none] [] _
                    refine jr_iload rfl rfl ?_
                    refine jr_ic rfl ?_
                    refine jr_ic rfl ?_
                    refine jr_cs3 (mc' := 0) (ms' := 0) rfl jm_MD_isIn_n jm_MD_isIn_f rfl rfl rfl rfl rfl (Nat.zero_le _) (Nat.zero_le _) ?_
                    show jx_W (jm_MD_isIn, _, _, _, _, _, _) _ 0 0 0 [some _, some _, some _] [] _
                    refine jr_iload rfl rfl ?_
                    refine jr_iload rfl rfl ?_
                    refine jr_icmp_lt rfl (fun m2MDisIn => ?_) (fun m2MDisIn => ?_)
                    · refine jr_ic rfl ?_
                      refine jr_zret rfl rfl rfl (Nat.zero_le _) (Nat.zero_le _) ?_
                      refine jr_if_eq rfl (fun _ => ?_) (fun z => absurd (by decide) z)
                      refine jr_ic rfl ?_
                      refine jr_iret rfl rfl (Nat.zero_le _) (Nat.zero_le _) ?_
                      first
                        | exact ⟨rfl, hRel0⟩
                        | (exfalso; omega)
                        | (exfalso; simp (disch := omega) only [Int32.lt_iff_toInt_lt, Int32.le_iff_toInt_le, ← Int32.toInt_inj, Int32.reduceToInt, nI_toInt] at c3 c5 c8 c12 c1RephasPerson c5RephasPerson m2MDisIn; done)
                        | (exfalso; simp (disch := omega) only [Int32.lt_iff_toInt_lt, Int32.le_iff_toInt_le, ← Int32.toInt_inj, Int32.reduceToInt, nI_toInt] at c3 c5 c8 c12 c1RephasPerson c5RephasPerson m2MDisIn; omega)
                    · refine jr_iload rfl rfl ?_
                      refine jr_iload rfl rfl ?_
                      refine jr_icmp_gt rfl (fun m5MDisIn => ?_) (fun m5MDisIn => ?_)
                      · refine jr_ic rfl ?_
                        refine jr_zret rfl rfl rfl (Nat.zero_le _) (Nat.zero_le _) ?_
                        refine jr_if_eq rfl (fun _ => ?_) (fun z => absurd (by decide) z)
                        refine jr_ic rfl ?_
                        refine jr_iret rfl rfl (Nat.zero_le _) (Nat.zero_le _) ?_
                        first
                          | exact ⟨rfl, hRel0⟩
                          | (exfalso; omega)
                          | (exfalso; simp (disch := omega) only [Int32.lt_iff_toInt_lt, Int32.le_iff_toInt_le, ← Int32.toInt_inj, Int32.reduceToInt, nI_toInt] at c3 c5 c8 c12 c1RephasPerson c5RephasPerson m2MDisIn m5MDisIn; done)
                          | (exfalso; simp (disch := omega) only [Int32.lt_iff_toInt_lt, Int32.le_iff_toInt_le, ← Int32.toInt_inj, Int32.reduceToInt, nI_toInt] at c3 c5 c8 c12 c1RephasPerson c5RephasPerson m2MDisIn m5MDisIn; omega)
                      · refine jr_ic rfl ?_
                        refine jr_goto rfl ?_
                        refine jr_zret rfl rfl rfl (Nat.zero_le _) (Nat.zero_le _) ?_
                        refine jr_if_eq rfl (fun z => absurd z (by decide)) (fun _ => ?_)
                        refine jr_iload rfl rfl ?_
                        refine jr_ic rfl ?_
                        refine jr_ic rfl ?_
                        refine jr_cs3 (mc' := 0) (ms' := 0) rfl jm_MD_isIn_n jm_MD_isIn_f rfl rfl rfl rfl rfl (Nat.zero_le _) (Nat.zero_le _) ?_
                        show jx_W (jm_MD_isIn, _, _, _, _, _, _) _ 0 0 0 [some _, some _, some _] [] _
                        refine jr_iload rfl rfl ?_
                        refine jr_iload rfl rfl ?_
                        refine jr_icmp_lt rfl (fun m2MDisIn_2 => ?_) (fun m2MDisIn_2 => ?_)
                        · refine jr_ic rfl ?_
                          refine jr_zret rfl rfl rfl (Nat.zero_le _) (Nat.zero_le _) ?_
                          refine jr_if_eq rfl (fun _ => ?_) (fun z => absurd (by decide) z)
                          refine jr_ic rfl ?_
                          refine jr_iret rfl rfl (Nat.zero_le _) (Nat.zero_le _) ?_
                          first
                            | exact ⟨rfl, hRel0⟩
                            | (exfalso; omega)
                            | (exfalso; simp (disch := omega) only [Int32.lt_iff_toInt_lt, Int32.le_iff_toInt_le, ← Int32.toInt_inj, Int32.reduceToInt, nI_toInt] at c3 c5 c8 c12 c1RephasPerson c5RephasPerson m2MDisIn m5MDisIn m2MDisIn_2; done)
                            | (exfalso; simp (disch := omega) only [Int32.lt_iff_toInt_lt, Int32.le_iff_toInt_le, ← Int32.toInt_inj, Int32.reduceToInt, nI_toInt] at c3 c5 c8 c12 c1RephasPerson c5RephasPerson m2MDisIn m5MDisIn m2MDisIn_2; omega)
                        · refine jr_iload rfl rfl ?_
                          refine jr_iload rfl rfl ?_
                          refine jr_icmp_gt rfl (fun m5MDisIn_2 => ?_) (fun m5MDisIn_2 => ?_)
                          · refine jr_ic rfl ?_
                            refine jr_zret rfl rfl rfl (Nat.zero_le _) (Nat.zero_le _) ?_
                            refine jr_if_eq rfl (fun _ => ?_) (fun z => absurd (by decide) z)
                            refine jr_ic rfl ?_
                            refine jr_iret rfl rfl (Nat.zero_le _) (Nat.zero_le _) ?_
                            first
                              | exact ⟨rfl, hRel0⟩
                              | (exfalso; omega)
                              | (exfalso; simp (disch := omega) only [Int32.lt_iff_toInt_lt, Int32.le_iff_toInt_le, ← Int32.toInt_inj, Int32.reduceToInt, nI_toInt] at c3 c5 c8 c12 c1RephasPerson c5RephasPerson m2MDisIn m5MDisIn m2MDisIn_2 m5MDisIn_2; done)
                              | (exfalso; simp (disch := omega) only [Int32.lt_iff_toInt_lt, Int32.le_iff_toInt_le, ← Int32.toInt_inj, Int32.reduceToInt, nI_toInt] at c3 c5 c8 c12 c1RephasPerson c5RephasPerson m2MDisIn m5MDisIn m2MDisIn_2 m5MDisIn_2; omega)
                          · refine jr_ic rfl ?_
                            refine jr_goto rfl ?_
                            refine jr_zret rfl rfl rfl (Nat.zero_le _) (Nat.zero_le _) ?_
                            refine jr_if_eq rfl (fun z => absurd z (by decide)) (fun _ => ?_)
                            refine jr_aload rfl rfl ?_
                            refine jr_cv0 (mc' := 0) (ms' := 0) rfl jm_MD_hasMonths_n jm_MD_hasMonths_f rfl rfl rfl rfl rfl rfl rfl (Nat.zero_le _) (Nat.zero_le _) ?_
                            show jx_W (jm_MD_hasMonths, _, _, _, _, _, _) _ 0 0 0 [some _] [] _
                            refine jr_aload rfl rfl ?_
                            refine jr_getR rfl rfl rfl rfl (Or.inl rfl) ?_
                            refine jr_aload rfl rfl ?_
                            refine jr_getI rfl rfl ?_
                            refine jr_iald (len := 2) rfl rfl hw.1 (by omega) ?_
                            refine jr_if_le rfl (fun m5MDhasMonths => ?_) (fun m5MDhasMonths => ?_)
                            · refine jr_ic rfl ?_
                              refine jr_zret rfl rfl rfl (Nat.zero_le _) (Nat.zero_le _) ?_
                              refine jr_if_eq rfl (fun _ => ?_) (fun z => absurd (by decide) z)
                              refine jr_ic rfl ?_
                              refine jr_iret rfl rfl (Nat.zero_le _) (Nat.zero_le _) ?_
                              first
                                | exact ⟨rfl, hRel0⟩
                                | (exfalso; omega)
                                | (exfalso; simp (disch := omega) only [Int32.lt_iff_toInt_lt, Int32.le_iff_toInt_le, ← Int32.toInt_inj, Int32.reduceToInt, nI_toInt] at c3 c5 c8 c12 c1RephasPerson c5RephasPerson m2MDisIn m5MDisIn m2MDisIn_2 m5MDisIn_2 m5MDhasMonths; done)
                                | (exfalso; simp (disch := omega) only [Int32.lt_iff_toInt_lt, Int32.le_iff_toInt_le, ← Int32.toInt_inj, Int32.reduceToInt, nI_toInt] at c3 c5 c8 c12 c1RephasPerson c5RephasPerson m2MDisIn m5MDisIn m2MDisIn_2 m5MDisIn_2 m5MDhasMonths; omega)
                            · refine jr_ic rfl ?_
                              refine jr_goto rfl ?_
                              refine jr_zret rfl rfl rfl (Nat.zero_le _) (Nat.zero_le _) ?_
                              refine jr_if_eq rfl (fun z => absurd z (by decide)) (fun _ => ?_)
                              refine jr_iload rfl rfl ?_
                              refine jr_ic rfl ?_
                              refine jr_icmp_ne rfl (fun m15 => ?_) (fun m15 => ?_)
                              · refine jr_aload rfl rfl ?_
                                refine jr_cv0 (mc' := 0) (ms' := 0) rfl jm_MD_keepHead_n jm_MD_keepHead_f rfl rfl rfl rfl rfl rfl rfl (Nat.zero_le _) (Nat.zero_le _) ?_
                                first
                                  | (exfalso; omega)
                                  | (exfalso; simp (disch := omega) only [Int32.lt_iff_toInt_lt, Int32.le_iff_toInt_le, ← Int32.toInt_inj, Int32.reduceToInt, nI_toInt] at c3 c5 c8 c12 c1RephasPerson c5RephasPerson m2MDisIn m5MDisIn m2MDisIn_2 m5MDisIn_2 m5MDhasMonths m15; done)
                                  | (exfalso; simp (disch := omega) only [Int32.lt_iff_toInt_lt, Int32.le_iff_toInt_le, ← Int32.toInt_inj, Int32.reduceToInt, nI_toInt] at c3 c5 c8 c12 c1RephasPerson c5RephasPerson m2MDisIn m5MDisIn m2MDisIn_2 m5MDisIn_2 m5MDhasMonths m15; omega)
                              · refine jr_aload rfl rfl ?_
                                refine jr_iload rfl rfl ?_
                                refine jr_cv1 (mc' := 0) (ms' := 0) rfl jm_MD_isPerson_n jm_MD_isPerson_f rfl rfl rfl rfl rfl rfl rfl (Nat.zero_le _) (Nat.zero_le _) ?_
                                show jx_W (jm_MD_isPerson, _, _, _, _, _, _) _ 0 0 0 [some _, some _] [] _
                                refine jr_iload rfl rfl ?_
                                refine jr_ic rfl ?_
                                refine jr_aload rfl rfl ?_
                                refine jr_cv0 (mc' := 0) (ms' := 0) rfl jm_MD_personMany_n jm_MD_personMany_f rfl rfl rfl rfl rfl rfl rfl (Nat.zero_le _) (Nat.zero_le _) ?_
                                show jx_W (jm_MD_personMany, _, _, _, _, _, _) _ 0 0 0 [some _] [] _
                                refine jr_aload rfl rfl ?_
                                refine jr_getR rfl rfl rfl rfl (Or.inl rfl) ?_
                                refine jr_aload rfl rfl ?_
                                refine jr_getI rfl rfl ?_
                                refine jr_iald (len := 2) rfl rfl hw.1 (by omega) ?_
                                refine jr_iret rfl rfl (Nat.zero_le _) (Nat.zero_le _) ?_
                                refine jr_ic rfl ?_
                                refine jr_isub rfl ?_
                                refine jr_cs3 (mc' := 0) (ms' := 0) rfl jm_MD_isIn_n jm_MD_isIn_f rfl rfl rfl rfl rfl (Nat.zero_le _) (Nat.zero_le _) ?_
                                show jx_W (jm_MD_isIn, _, _, _, _, _, _) _ 0 0 0 [some _, some _, some _] [] _
                                refine jr_iload rfl rfl ?_
                                refine jr_iload rfl rfl ?_
                                refine jr_icmp_lt rfl (fun m2MDisIn_3 => ?_) (fun m2MDisIn_3 => ?_)
                                · refine jr_ic rfl ?_
                                  refine jr_zret rfl rfl rfl (Nat.zero_le _) (Nat.zero_le _) ?_
                                  refine jr_zret rfl rfl rfl (Nat.zero_le _) (Nat.zero_le _) ?_
                                  refine jr_if_ne rfl (fun z => absurd (by decide) z) (fun _ => ?_)
                                  refine jr_ic rfl ?_
                                  refine jr_iret rfl rfl (Nat.zero_le _) (Nat.zero_le _) ?_
                                  first
                                    | exact ⟨rfl, hRel0⟩
                                    | (exfalso; omega)
                                    | (exfalso; simp (disch := omega) only [Int32.lt_iff_toInt_lt, Int32.le_iff_toInt_le, ← Int32.toInt_inj, Int32.reduceToInt, nI_toInt] at c3 c5 c8 c12 c1RephasPerson c5RephasPerson m2MDisIn m5MDisIn m2MDisIn_2 m5MDisIn_2 m5MDhasMonths m15 m2MDisIn_3; done)
                                    | (exfalso; simp (disch := omega) only [Int32.lt_iff_toInt_lt, Int32.le_iff_toInt_le, ← Int32.toInt_inj, Int32.reduceToInt, nI_toInt] at c3 c5 c8 c12 c1RephasPerson c5RephasPerson m2MDisIn m5MDisIn m2MDisIn_2 m5MDisIn_2 m5MDhasMonths m15 m2MDisIn_3; omega)
                                · refine jr_iload rfl rfl ?_
                                  refine jr_iload rfl rfl ?_
                                  refine jr_icmp_gt rfl (fun m5MDisIn_3 => ?_) (fun m5MDisIn_3 => ?_)
                                  · refine jr_ic rfl ?_
                                    refine jr_zret rfl rfl rfl (Nat.zero_le _) (Nat.zero_le _) ?_
                                    refine jr_zret rfl rfl rfl (Nat.zero_le _) (Nat.zero_le _) ?_
                                    refine jr_if_ne rfl (fun z => absurd (by decide) z) (fun _ => ?_)
                                    refine jr_ic rfl ?_
                                    refine jr_iret rfl rfl (Nat.zero_le _) (Nat.zero_le _) ?_
                                    first
                                      | exact ⟨rfl, hRel0⟩
                                      | (exfalso; omega)
                                      | (exfalso; simp (disch := omega) only [Int32.lt_iff_toInt_lt, Int32.le_iff_toInt_le, ← Int32.toInt_inj, Int32.reduceToInt, nI_toInt] at c3 c5 c8 c12 c1RephasPerson c5RephasPerson m2MDisIn m5MDisIn m2MDisIn_2 m5MDisIn_2 m5MDhasMonths m15 m2MDisIn_3 m5MDisIn_3; done)
                                      | (exfalso; simp (disch := omega) only [Int32.lt_iff_toInt_lt, Int32.le_iff_toInt_le, ← Int32.toInt_inj, Int32.reduceToInt, nI_toInt] at c3 c5 c8 c12 c1RephasPerson c5RephasPerson m2MDisIn m5MDisIn m2MDisIn_2 m5MDisIn_2 m5MDhasMonths m15 m2MDisIn_3 m5MDisIn_3; omega)
                                  · refine jr_ic rfl ?_
                                    refine jr_goto rfl ?_
                                    refine jr_zret rfl rfl rfl (Nat.zero_le _) (Nat.zero_le _) ?_
                                    refine jr_zret rfl rfl rfl (Nat.zero_le _) (Nat.zero_le _) ?_
                                    refine jr_if_ne rfl (fun _ => ?_) (fun z => absurd z (by decide))
                                    refine jr_aload rfl rfl ?_
                                    refine jr_cv0 (mc' := 0) (ms' := 0) rfl jm_MD_keepHead_n jm_MD_keepHead_f rfl rfl rfl rfl rfl rfl rfl (Nat.zero_le _) (Nat.zero_le _) ?_
                                    first
                                      | (exfalso; omega)
                                      | (exfalso; simp (disch := omega) only [Int32.lt_iff_toInt_lt, Int32.le_iff_toInt_le, ← Int32.toInt_inj, Int32.reduceToInt, nI_toInt] at c3 c5 c8 c12 c1RephasPerson c5RephasPerson m2MDisIn m5MDisIn m2MDisIn_2 m5MDisIn_2 m5MDhasMonths m15 m2MDisIn_3 m5MDisIn_3; done)
                                      | (exfalso; simp (disch := omega) only [Int32.lt_iff_toInt_lt, Int32.le_iff_toInt_le, ← Int32.toInt_inj, Int32.reduceToInt, nI_toInt] at c3 c5 c8 c12 c1RephasPerson c5RephasPerson m2MDisIn m5MDisIn m2MDisIn_2 m5MDisIn_2 m5MDhasMonths m15 m2MDisIn_3 m5MDisIn_3; omega)
                  · refine jr_ic rfl ?_
                    refine jr_goto rfl ?_
                    refine jr_zret rfl rfl rfl (Nat.zero_le _) (Nat.zero_le _) ?_
                    refine jr_if_eq rfl (fun z => absurd z (by decide)) (fun _ => ?_)
                    refine jr_aload rfl rfl ?_
                    refine jr_getR rfl rfl rfl rfl (Or.inl rfl) ?_
                    refine jr_aload rfl rfl ?_
                    refine jr_getR rfl rfl rfl rfl (Or.inl rfl) ?_
                    refine jr_iload rfl rfl ?_
                    refine jr_iload rfl rfl ?_
                    refine jr_cv3 (mc' := 0) (ms' := 0) rfl jm_For_hadAhead_n jm_For_hadAhead_f rfl rfl rfl rfl rfl rfl rfl (Nat.zero_le _) (Nat.zero_le _) ?_
                    show jx_W (jm_For_hadAhead, _, _, _, _, _, _) _ 0 0 0 [some _, some _, some _, some _] [] _
                    refine jr_aload rfl rfl ?_
                    refine jr_aload rfl rfl ?_
                    refine jr_iload rfl rfl ?_
                    refine jr_cv2 (mc' := 0) (ms' := 0) rfl jm_For_stepFrom_n jm_For_stepFrom_f rfl rfl rfl rfl rfl rfl rfl (Nat.zero_le _) (Nat.zero_le _) ?_
                    first
                      | (exfalso; omega)
                      | (exfalso; simp (disch := omega) only [Int32.lt_iff_toInt_lt, Int32.le_iff_toInt_le, ← Int32.toInt_inj, Int32.reduceToInt, nI_toInt] at c3 c5 c8 c12 c1RephasPerson c5RephasPerson; done)
                      | (exfalso; simp (disch := omega) only [Int32.lt_iff_toInt_lt, Int32.le_iff_toInt_le, ← Int32.toInt_inj, Int32.reduceToInt, nI_toInt] at c3 c5 c8 c12 c1RephasPerson c5RephasPerson; omega)
              · skip
                refine jr_ic rfl ?_
                refine jr_iret rfl rfl (Nat.zero_le _) (Nat.zero_le _) ?_
                show jx_W (jm_MD_ahead, d + 40, 0, 0, false, 1, _) _ 0 0 0 [some _, some _, some _, some _, none, none] [] _
                refine jr_iload rfl rfl ?_
                refine jr_ic rfl ?_
                refine jr_ic rfl ?_
                refine jr_cs3 (mc' := 0) (ms' := 0) rfl jm_MD_isIn_n jm_MD_isIn_f rfl rfl rfl rfl rfl (Nat.zero_le _) (Nat.zero_le _) ?_
                show jx_W (jm_MD_isIn, _, _, _, _, _, _) _ 0 0 0 [some _, some _, some _] [] _
                refine jr_iload rfl rfl ?_
                refine jr_iload rfl rfl ?_
                refine jr_icmp_lt rfl (fun m2MDisIn => ?_) (fun m2MDisIn => ?_)
                · refine jr_ic rfl ?_
                  refine jr_zret rfl rfl rfl (Nat.zero_le _) (Nat.zero_le _) ?_
                  refine jr_if_eq rfl (fun _ => ?_) (fun z => absurd (by decide) z)
                  refine jr_ic rfl ?_
                  refine jr_iret rfl rfl (Nat.zero_le _) (Nat.zero_le _) ?_
                  first
                    | exact ⟨rfl, hRel0⟩
                    | (exfalso; omega)
                    | (exfalso; simp (disch := omega) only [Int32.lt_iff_toInt_lt, Int32.le_iff_toInt_le, ← Int32.toInt_inj, Int32.reduceToInt, nI_toInt] at c3 c5 c8 m2MDisIn; done)
                    | (exfalso; simp (disch := omega) only [Int32.lt_iff_toInt_lt, Int32.le_iff_toInt_le, ← Int32.toInt_inj, Int32.reduceToInt, nI_toInt] at c3 c5 c8 m2MDisIn; omega)
                · refine jr_iload rfl rfl ?_
                  refine jr_iload rfl rfl ?_
                  refine jr_icmp_gt rfl (fun m5MDisIn => ?_) (fun m5MDisIn => ?_)
                  · refine jr_ic rfl ?_
                    refine jr_zret rfl rfl rfl (Nat.zero_le _) (Nat.zero_le _) ?_
                    refine jr_if_eq rfl (fun _ => ?_) (fun z => absurd (by decide) z)
                    refine jr_ic rfl ?_
                    refine jr_iret rfl rfl (Nat.zero_le _) (Nat.zero_le _) ?_
                    first
                      | exact ⟨rfl, hRel0⟩
                      | (exfalso; omega)
                      | (exfalso; simp (disch := omega) only [Int32.lt_iff_toInt_lt, Int32.le_iff_toInt_le, ← Int32.toInt_inj, Int32.reduceToInt, nI_toInt] at c3 c5 c8 m2MDisIn m5MDisIn; done)
                      | (exfalso; simp (disch := omega) only [Int32.lt_iff_toInt_lt, Int32.le_iff_toInt_le, ← Int32.toInt_inj, Int32.reduceToInt, nI_toInt] at c3 c5 c8 m2MDisIn m5MDisIn; omega)
                  · refine jr_ic rfl ?_
                    refine jr_goto rfl ?_
                    refine jr_zret rfl rfl rfl (Nat.zero_le _) (Nat.zero_le _) ?_
                    refine jr_if_eq rfl (fun z => absurd z (by decide)) (fun _ => ?_)
                    refine jr_iload rfl rfl ?_
                    refine jr_ic rfl ?_
                    refine jr_ic rfl ?_
                    refine jr_cs3 (mc' := 0) (ms' := 0) rfl jm_MD_isIn_n jm_MD_isIn_f rfl rfl rfl rfl rfl (Nat.zero_le _) (Nat.zero_le _) ?_
                    show jx_W (jm_MD_isIn, _, _, _, _, _, _) _ 0 0 0 [some _, some _, some _] [] _
                    refine jr_iload rfl rfl ?_
                    refine jr_iload rfl rfl ?_
                    refine jr_icmp_lt rfl (fun m2MDisIn_2 => ?_) (fun m2MDisIn_2 => ?_)
                    · refine jr_ic rfl ?_
                      refine jr_zret rfl rfl rfl (Nat.zero_le _) (Nat.zero_le _) ?_
                      refine jr_if_eq rfl (fun _ => ?_) (fun z => absurd (by decide) z)
                      refine jr_ic rfl ?_
                      refine jr_iret rfl rfl (Nat.zero_le _) (Nat.zero_le _) ?_
                      first
                        | exact ⟨rfl, hRel0⟩
                        | (exfalso; omega)
                        | (exfalso; simp (disch := omega) only [Int32.lt_iff_toInt_lt, Int32.le_iff_toInt_le, ← Int32.toInt_inj, Int32.reduceToInt, nI_toInt] at c3 c5 c8 m2MDisIn m5MDisIn m2MDisIn_2; done)
                        | (exfalso; simp (disch := omega) only [Int32.lt_iff_toInt_lt, Int32.le_iff_toInt_le, ← Int32.toInt_inj, Int32.reduceToInt, nI_toInt] at c3 c5 c8 m2MDisIn m5MDisIn m2MDisIn_2; omega)
                    · refine jr_iload rfl rfl ?_
                      refine jr_iload rfl rfl ?_
                      refine jr_icmp_gt rfl (fun m5MDisIn_2 => ?_) (fun m5MDisIn_2 => ?_)
                      · refine jr_ic rfl ?_
                        refine jr_zret rfl rfl rfl (Nat.zero_le _) (Nat.zero_le _) ?_
                        refine jr_if_eq rfl (fun _ => ?_) (fun z => absurd (by decide) z)
                        refine jr_ic rfl ?_
                        refine jr_iret rfl rfl (Nat.zero_le _) (Nat.zero_le _) ?_
                        first
                          | exact ⟨rfl, hRel0⟩
                          | (exfalso; omega)
                          | (exfalso; simp (disch := omega) only [Int32.lt_iff_toInt_lt, Int32.le_iff_toInt_le, ← Int32.toInt_inj, Int32.reduceToInt, nI_toInt] at c3 c5 c8 m2MDisIn m5MDisIn m2MDisIn_2 m5MDisIn_2; done)
                          | (exfalso; simp (disch := omega) only [Int32.lt_iff_toInt_lt, Int32.le_iff_toInt_le, ← Int32.toInt_inj, Int32.reduceToInt, nI_toInt] at c3 c5 c8 m2MDisIn m5MDisIn m2MDisIn_2 m5MDisIn_2; omega)
                      · refine jr_ic rfl ?_
                        refine jr_goto rfl ?_
                        refine jr_zret rfl rfl rfl (Nat.zero_le _) (Nat.zero_le _) ?_
                        refine jr_if_eq rfl (fun z => absurd z (by decide)) (fun _ => ?_)
                        refine jr_aload rfl rfl ?_
                        refine jr_cv0 (mc' := 0) (ms' := 0) rfl jm_MD_hasMonths_n jm_MD_hasMonths_f rfl rfl rfl rfl rfl rfl rfl (Nat.zero_le _) (Nat.zero_le _) ?_
                        show jx_W (jm_MD_hasMonths, _, _, _, _, _, _) _ 0 0 0 [some _] [] _
                        refine jr_aload rfl rfl ?_
                        refine jr_getR rfl rfl rfl rfl (Or.inl rfl) ?_
                        refine jr_aload rfl rfl ?_
                        refine jr_getI rfl rfl ?_
                        refine jr_iald (len := 2) rfl rfl hw.1 (by omega) ?_
                        refine jr_if_le rfl (fun m5MDhasMonths => ?_) (fun m5MDhasMonths => ?_)
                        · refine jr_ic rfl ?_
                          refine jr_zret rfl rfl rfl (Nat.zero_le _) (Nat.zero_le _) ?_
                          refine jr_if_eq rfl (fun _ => ?_) (fun z => absurd (by decide) z)
                          refine jr_ic rfl ?_
                          refine jr_iret rfl rfl (Nat.zero_le _) (Nat.zero_le _) ?_
                          first
                            | exact ⟨rfl, hRel0⟩
                            | (exfalso; omega)
                            | (exfalso; simp (disch := omega) only [Int32.lt_iff_toInt_lt, Int32.le_iff_toInt_le, ← Int32.toInt_inj, Int32.reduceToInt, nI_toInt] at c3 c5 c8 m2MDisIn m5MDisIn m2MDisIn_2 m5MDisIn_2 m5MDhasMonths; done)
                            | (exfalso; simp (disch := omega) only [Int32.lt_iff_toInt_lt, Int32.le_iff_toInt_le, ← Int32.toInt_inj, Int32.reduceToInt, nI_toInt] at c3 c5 c8 m2MDisIn m5MDisIn m2MDisIn_2 m5MDisIn_2 m5MDhasMonths; omega)
                        · refine jr_ic rfl ?_
                          refine jr_goto rfl ?_
                          refine jr_zret rfl rfl rfl (Nat.zero_le _) (Nat.zero_le _) ?_
                          refine jr_if_eq rfl (fun z => absurd z (by decide)) (fun _ => ?_)
                          refine jr_iload rfl rfl ?_
                          refine jr_ic rfl ?_
                          refine jr_icmp_ne rfl (fun m15 => ?_) (fun m15 => ?_)
                          · refine jr_aload rfl rfl ?_
                            refine jr_cv0 (mc' := 0) (ms' := 0) rfl jm_MD_keepHead_n jm_MD_keepHead_f rfl rfl rfl rfl rfl rfl rfl (Nat.zero_le _) (Nat.zero_le _) ?_
                            first
                              | (exfalso; omega)
                              | (exfalso; simp (disch := omega) only [Int32.lt_iff_toInt_lt, Int32.le_iff_toInt_le, ← Int32.toInt_inj, Int32.reduceToInt, nI_toInt] at c3 c5 c8 m2MDisIn m5MDisIn m2MDisIn_2 m5MDisIn_2 m5MDhasMonths m15; done)
                              | (exfalso; simp (disch := omega) only [Int32.lt_iff_toInt_lt, Int32.le_iff_toInt_le, ← Int32.toInt_inj, Int32.reduceToInt, nI_toInt] at c3 c5 c8 m2MDisIn m5MDisIn m2MDisIn_2 m5MDisIn_2 m5MDhasMonths m15; omega)
                          · refine jr_aload rfl rfl ?_
                            refine jr_iload rfl rfl ?_
                            refine jr_cv1 (mc' := 0) (ms' := 0) rfl jm_MD_isPerson_n jm_MD_isPerson_f rfl rfl rfl rfl rfl rfl rfl (Nat.zero_le _) (Nat.zero_le _) ?_
                            show jx_W (jm_MD_isPerson, _, _, _, _, _, _) _ 0 0 0 [some _, some _] [] _
                            refine jr_iload rfl rfl ?_
                            refine jr_ic rfl ?_
                            refine jr_aload rfl rfl ?_
                            refine jr_cv0 (mc' := 0) (ms' := 0) rfl jm_MD_personMany_n jm_MD_personMany_f rfl rfl rfl rfl rfl rfl rfl (Nat.zero_le _) (Nat.zero_le _) ?_
                            show jx_W (jm_MD_personMany, _, _, _, _, _, _) _ 0 0 0 [some _] [] _
                            refine jr_aload rfl rfl ?_
                            refine jr_getR rfl rfl rfl rfl (Or.inl rfl) ?_
                            refine jr_aload rfl rfl ?_
                            refine jr_getI rfl rfl ?_
                            refine jr_iald (len := 2) rfl rfl hw.1 (by omega) ?_
                            refine jr_iret rfl rfl (Nat.zero_le _) (Nat.zero_le _) ?_
                            refine jr_ic rfl ?_
                            refine jr_isub rfl ?_
                            refine jr_cs3 (mc' := 0) (ms' := 0) rfl jm_MD_isIn_n jm_MD_isIn_f rfl rfl rfl rfl rfl (Nat.zero_le _) (Nat.zero_le _) ?_
                            show jx_W (jm_MD_isIn, _, _, _, _, _, _) _ 0 0 0 [some _, some _, some _] [] _
                            refine jr_iload rfl rfl ?_
                            refine jr_iload rfl rfl ?_
                            refine jr_icmp_lt rfl (fun m2MDisIn_3 => ?_) (fun m2MDisIn_3 => ?_)
                            · refine jr_ic rfl ?_
                              refine jr_zret rfl rfl rfl (Nat.zero_le _) (Nat.zero_le _) ?_
                              refine jr_zret rfl rfl rfl (Nat.zero_le _) (Nat.zero_le _) ?_
                              refine jr_if_ne rfl (fun z => absurd (by decide) z) (fun _ => ?_)
                              refine jr_ic rfl ?_
                              refine jr_iret rfl rfl (Nat.zero_le _) (Nat.zero_le _) ?_
                              first
                                | exact ⟨rfl, hRel0⟩
                                | (exfalso; omega)
                                | (exfalso; simp (disch := omega) only [Int32.lt_iff_toInt_lt, Int32.le_iff_toInt_le, ← Int32.toInt_inj, Int32.reduceToInt, nI_toInt] at c3 c5 c8 m2MDisIn m5MDisIn m2MDisIn_2 m5MDisIn_2 m5MDhasMonths m15 m2MDisIn_3; done)
                                | (exfalso; simp (disch := omega) only [Int32.lt_iff_toInt_lt, Int32.le_iff_toInt_le, ← Int32.toInt_inj, Int32.reduceToInt, nI_toInt] at c3 c5 c8 m2MDisIn m5MDisIn m2MDisIn_2 m5MDisIn_2 m5MDhasMonths m15 m2MDisIn_3; omega)
                            · refine jr_iload rfl rfl ?_
                              refine jr_iload rfl rfl ?_
                              refine jr_icmp_gt rfl (fun m5MDisIn_3 => ?_) (fun m5MDisIn_3 => ?_)
                              · refine jr_ic rfl ?_
                                refine jr_zret rfl rfl rfl (Nat.zero_le _) (Nat.zero_le _) ?_
                                refine jr_zret rfl rfl rfl (Nat.zero_le _) (Nat.zero_le _) ?_
                                refine jr_if_ne rfl (fun z => absurd (by decide) z) (fun _ => ?_)
                                refine jr_ic rfl ?_
                                refine jr_iret rfl rfl (Nat.zero_le _) (Nat.zero_le _) ?_
                                first
                                  | exact ⟨rfl, hRel0⟩
                                  | (exfalso; omega)
                                  | (exfalso; simp (disch := omega) only [Int32.lt_iff_toInt_lt, Int32.le_iff_toInt_le, ← Int32.toInt_inj, Int32.reduceToInt, nI_toInt] at c3 c5 c8 m2MDisIn m5MDisIn m2MDisIn_2 m5MDisIn_2 m5MDhasMonths m15 m2MDisIn_3 m5MDisIn_3; done)
                                  | (exfalso; simp (disch := omega) only [Int32.lt_iff_toInt_lt, Int32.le_iff_toInt_le, ← Int32.toInt_inj, Int32.reduceToInt, nI_toInt] at c3 c5 c8 m2MDisIn m5MDisIn m2MDisIn_2 m5MDisIn_2 m5MDhasMonths m15 m2MDisIn_3 m5MDisIn_3; omega)
                              · refine jr_ic rfl ?_
                                refine jr_goto rfl ?_
                                refine jr_zret rfl rfl rfl (Nat.zero_le _) (Nat.zero_le _) ?_
                                refine jr_zret rfl rfl rfl (Nat.zero_le _) (Nat.zero_le _) ?_
                                refine jr_if_ne rfl (fun _ => ?_) (fun z => absurd z (by decide))
                                refine jr_aload rfl rfl ?_
                                refine jr_cv0 (mc' := 0) (ms' := 0) rfl jm_MD_keepHead_n jm_MD_keepHead_f rfl rfl rfl rfl rfl rfl rfl (Nat.zero_le _) (Nat.zero_le _) ?_
                                first
                                  | (exfalso; omega)
                                  | (exfalso; simp (disch := omega) only [Int32.lt_iff_toInt_lt, Int32.le_iff_toInt_le, ← Int32.toInt_inj, Int32.reduceToInt, nI_toInt] at c3 c5 c8 m2MDisIn m5MDisIn m2MDisIn_2 m5MDisIn_2 m5MDhasMonths m15 m2MDisIn_3 m5MDisIn_3; done)
                                  | (exfalso; simp (disch := omega) only [Int32.lt_iff_toInt_lt, Int32.le_iff_toInt_le, ← Int32.toInt_inj, Int32.reduceToInt, nI_toInt] at c3 c5 c8 m2MDisIn m5MDisIn m2MDisIn_2 m5MDisIn_2 m5MDhasMonths m15 m2MDisIn_3 m5MDisIn_3; omega)
        · refine jr_ic rfl ?_
          refine jr_iret rfl rfl (Nat.zero_le _) (Nat.zero_le _) ?_
          show jx_W (jm_MD_ahead, d + 40, 0, 0, false, 1, _) _ 0 0 0 [some _, some _, some _, some _, none, none] [] _
          refine jr_iload rfl rfl ?_
          refine jr_ic rfl ?_
          refine jr_ic rfl ?_
          refine jr_cs3 (mc' := 0) (ms' := 0) rfl jm_MD_isIn_n jm_MD_isIn_f rfl rfl rfl rfl rfl (Nat.zero_le _) (Nat.zero_le _) ?_
          show jx_W (jm_MD_isIn, _, _, _, _, _, _) _ 0 0 0 [some _, some _, some _] [] _
          refine jr_iload rfl rfl ?_
          refine jr_iload rfl rfl ?_
          refine jr_icmp_lt rfl (fun m2MDisIn => ?_) (fun m2MDisIn => ?_)
          · refine jr_ic rfl ?_
            refine jr_zret rfl rfl rfl (Nat.zero_le _) (Nat.zero_le _) ?_
            refine jr_if_eq rfl (fun _ => ?_) (fun z => absurd (by decide) z)
            refine jr_ic rfl ?_
            refine jr_iret rfl rfl (Nat.zero_le _) (Nat.zero_le _) ?_
            first
              | exact ⟨rfl, hRel0⟩
              | (exfalso; omega)
              | (exfalso; simp (disch := omega) only [Int32.lt_iff_toInt_lt, Int32.le_iff_toInt_le, ← Int32.toInt_inj, Int32.reduceToInt, nI_toInt] at c3 c5 c8 m2MDisIn; done)
              | (exfalso; simp (disch := omega) only [Int32.lt_iff_toInt_lt, Int32.le_iff_toInt_le, ← Int32.toInt_inj, Int32.reduceToInt, nI_toInt] at c3 c5 c8 m2MDisIn; omega)
          · refine jr_iload rfl rfl ?_
            refine jr_iload rfl rfl ?_
            refine jr_icmp_gt rfl (fun m5MDisIn => ?_) (fun m5MDisIn => ?_)
            · refine jr_ic rfl ?_
              refine jr_zret rfl rfl rfl (Nat.zero_le _) (Nat.zero_le _) ?_
              refine jr_if_eq rfl (fun _ => ?_) (fun z => absurd (by decide) z)
              refine jr_ic rfl ?_
              refine jr_iret rfl rfl (Nat.zero_le _) (Nat.zero_le _) ?_
              first
                | exact ⟨rfl, hRel0⟩
                | (exfalso; omega)
                | (exfalso; simp (disch := omega) only [Int32.lt_iff_toInt_lt, Int32.le_iff_toInt_le, ← Int32.toInt_inj, Int32.reduceToInt, nI_toInt] at c3 c5 c8 m2MDisIn m5MDisIn; done)
                | (exfalso; simp (disch := omega) only [Int32.lt_iff_toInt_lt, Int32.le_iff_toInt_le, ← Int32.toInt_inj, Int32.reduceToInt, nI_toInt] at c3 c5 c8 m2MDisIn m5MDisIn; omega)
            · refine jr_ic rfl ?_
              refine jr_goto rfl ?_
              refine jr_zret rfl rfl rfl (Nat.zero_le _) (Nat.zero_le _) ?_
              refine jr_if_eq rfl (fun z => absurd z (by decide)) (fun _ => ?_)
              refine jr_iload rfl rfl ?_
              refine jr_ic rfl ?_
              refine jr_ic rfl ?_
              refine jr_cs3 (mc' := 0) (ms' := 0) rfl jm_MD_isIn_n jm_MD_isIn_f rfl rfl rfl rfl rfl (Nat.zero_le _) (Nat.zero_le _) ?_
              show jx_W (jm_MD_isIn, _, _, _, _, _, _) _ 0 0 0 [some _, some _, some _] [] _
              refine jr_iload rfl rfl ?_
              refine jr_iload rfl rfl ?_
              refine jr_icmp_lt rfl (fun m2MDisIn_2 => ?_) (fun m2MDisIn_2 => ?_)
              · refine jr_ic rfl ?_
                refine jr_zret rfl rfl rfl (Nat.zero_le _) (Nat.zero_le _) ?_
                refine jr_if_eq rfl (fun _ => ?_) (fun z => absurd (by decide) z)
                refine jr_ic rfl ?_
                refine jr_iret rfl rfl (Nat.zero_le _) (Nat.zero_le _) ?_
                first
                  | exact ⟨rfl, hRel0⟩
                  | (exfalso; omega)
                  | (exfalso; simp (disch := omega) only [Int32.lt_iff_toInt_lt, Int32.le_iff_toInt_le, ← Int32.toInt_inj, Int32.reduceToInt, nI_toInt] at c3 c5 c8 m2MDisIn m5MDisIn m2MDisIn_2; done)
                  | (exfalso; simp (disch := omega) only [Int32.lt_iff_toInt_lt, Int32.le_iff_toInt_le, ← Int32.toInt_inj, Int32.reduceToInt, nI_toInt] at c3 c5 c8 m2MDisIn m5MDisIn m2MDisIn_2; omega)
              · refine jr_iload rfl rfl ?_
                refine jr_iload rfl rfl ?_
                refine jr_icmp_gt rfl (fun m5MDisIn_2 => ?_) (fun m5MDisIn_2 => ?_)
                · refine jr_ic rfl ?_
                  refine jr_zret rfl rfl rfl (Nat.zero_le _) (Nat.zero_le _) ?_
                  refine jr_if_eq rfl (fun _ => ?_) (fun z => absurd (by decide) z)
                  refine jr_ic rfl ?_
                  refine jr_iret rfl rfl (Nat.zero_le _) (Nat.zero_le _) ?_
                  first
                    | exact ⟨rfl, hRel0⟩
                    | (exfalso; omega)
                    | (exfalso; simp (disch := omega) only [Int32.lt_iff_toInt_lt, Int32.le_iff_toInt_le, ← Int32.toInt_inj, Int32.reduceToInt, nI_toInt] at c3 c5 c8 m2MDisIn m5MDisIn m2MDisIn_2 m5MDisIn_2; done)
                    | (exfalso; simp (disch := omega) only [Int32.lt_iff_toInt_lt, Int32.le_iff_toInt_le, ← Int32.toInt_inj, Int32.reduceToInt, nI_toInt] at c3 c5 c8 m2MDisIn m5MDisIn m2MDisIn_2 m5MDisIn_2; omega)
                · refine jr_ic rfl ?_
                  refine jr_goto rfl ?_
                  refine jr_zret rfl rfl rfl (Nat.zero_le _) (Nat.zero_le _) ?_
                  refine jr_if_eq rfl (fun z => absurd z (by decide)) (fun _ => ?_)
                  refine jr_aload rfl rfl ?_
                  refine jr_cv0 (mc' := 0) (ms' := 0) rfl jm_MD_hasMonths_n jm_MD_hasMonths_f rfl rfl rfl rfl rfl rfl rfl (Nat.zero_le _) (Nat.zero_le _) ?_
                  show jx_W (jm_MD_hasMonths, _, _, _, _, _, _) _ 0 0 0 [some _] [] _
                  refine jr_aload rfl rfl ?_
                  refine jr_getR rfl rfl rfl rfl (Or.inl rfl) ?_
                  refine jr_aload rfl rfl ?_
                  refine jr_getI rfl rfl ?_
                  refine jr_iald (len := 2) rfl rfl hw.1 (by omega) ?_
                  refine jr_if_le rfl (fun m5MDhasMonths => ?_) (fun m5MDhasMonths => ?_)
                  · refine jr_ic rfl ?_
                    refine jr_zret rfl rfl rfl (Nat.zero_le _) (Nat.zero_le _) ?_
                    refine jr_if_eq rfl (fun _ => ?_) (fun z => absurd (by decide) z)
                    refine jr_ic rfl ?_
                    refine jr_iret rfl rfl (Nat.zero_le _) (Nat.zero_le _) ?_
                    first
                      | exact ⟨rfl, hRel0⟩
                      | (exfalso; omega)
                      | (exfalso; simp (disch := omega) only [Int32.lt_iff_toInt_lt, Int32.le_iff_toInt_le, ← Int32.toInt_inj, Int32.reduceToInt, nI_toInt] at c3 c5 c8 m2MDisIn m5MDisIn m2MDisIn_2 m5MDisIn_2 m5MDhasMonths; done)
                      | (exfalso; simp (disch := omega) only [Int32.lt_iff_toInt_lt, Int32.le_iff_toInt_le, ← Int32.toInt_inj, Int32.reduceToInt, nI_toInt] at c3 c5 c8 m2MDisIn m5MDisIn m2MDisIn_2 m5MDisIn_2 m5MDhasMonths; omega)
                  · refine jr_ic rfl ?_
                    refine jr_goto rfl ?_
                    refine jr_zret rfl rfl rfl (Nat.zero_le _) (Nat.zero_le _) ?_
                    refine jr_if_eq rfl (fun z => absurd z (by decide)) (fun _ => ?_)
                    refine jr_iload rfl rfl ?_
                    refine jr_ic rfl ?_
                    refine jr_icmp_ne rfl (fun m15 => ?_) (fun m15 => ?_)
                    · refine jr_aload rfl rfl ?_
                      refine jr_cv0 (mc' := 0) (ms' := 0) rfl jm_MD_keepHead_n jm_MD_keepHead_f rfl rfl rfl rfl rfl rfl rfl (Nat.zero_le _) (Nat.zero_le _) ?_
                      first
                        | (exfalso; omega)
                        | (exfalso; simp (disch := omega) only [Int32.lt_iff_toInt_lt, Int32.le_iff_toInt_le, ← Int32.toInt_inj, Int32.reduceToInt, nI_toInt] at c3 c5 c8 m2MDisIn m5MDisIn m2MDisIn_2 m5MDisIn_2 m5MDhasMonths m15; done)
                        | (exfalso; simp (disch := omega) only [Int32.lt_iff_toInt_lt, Int32.le_iff_toInt_le, ← Int32.toInt_inj, Int32.reduceToInt, nI_toInt] at c3 c5 c8 m2MDisIn m5MDisIn m2MDisIn_2 m5MDisIn_2 m5MDhasMonths m15; omega)
                    · refine jr_aload rfl rfl ?_
                      refine jr_iload rfl rfl ?_
                      refine jr_cv1 (mc' := 0) (ms' := 0) rfl jm_MD_isPerson_n jm_MD_isPerson_f rfl rfl rfl rfl rfl rfl rfl (Nat.zero_le _) (Nat.zero_le _) ?_
                      show jx_W (jm_MD_isPerson, _, _, _, _, _, _) _ 0 0 0 [some _, some _] [] _
                      refine jr_iload rfl rfl ?_
                      refine jr_ic rfl ?_
                      refine jr_aload rfl rfl ?_
                      refine jr_cv0 (mc' := 0) (ms' := 0) rfl jm_MD_personMany_n jm_MD_personMany_f rfl rfl rfl rfl rfl rfl rfl (Nat.zero_le _) (Nat.zero_le _) ?_
                      show jx_W (jm_MD_personMany, _, _, _, _, _, _) _ 0 0 0 [some _] [] _
                      refine jr_aload rfl rfl ?_
                      refine jr_getR rfl rfl rfl rfl (Or.inl rfl) ?_
                      refine jr_aload rfl rfl ?_
                      refine jr_getI rfl rfl ?_
                      refine jr_iald (len := 2) rfl rfl hw.1 (by omega) ?_
                      refine jr_iret rfl rfl (Nat.zero_le _) (Nat.zero_le _) ?_
                      refine jr_ic rfl ?_
                      refine jr_isub rfl ?_
                      refine jr_cs3 (mc' := 0) (ms' := 0) rfl jm_MD_isIn_n jm_MD_isIn_f rfl rfl rfl rfl rfl (Nat.zero_le _) (Nat.zero_le _) ?_
                      show jx_W (jm_MD_isIn, _, _, _, _, _, _) _ 0 0 0 [some _, some _, some _] [] _
                      refine jr_iload rfl rfl ?_
                      refine jr_iload rfl rfl ?_
                      refine jr_icmp_lt rfl (fun m2MDisIn_3 => ?_) (fun m2MDisIn_3 => ?_)
                      · refine jr_ic rfl ?_
                        refine jr_zret rfl rfl rfl (Nat.zero_le _) (Nat.zero_le _) ?_
                        refine jr_zret rfl rfl rfl (Nat.zero_le _) (Nat.zero_le _) ?_
                        refine jr_if_ne rfl (fun z => absurd (by decide) z) (fun _ => ?_)
                        refine jr_ic rfl ?_
                        refine jr_iret rfl rfl (Nat.zero_le _) (Nat.zero_le _) ?_
                        first
                          | exact ⟨rfl, hRel0⟩
                          | (exfalso; omega)
                          | (exfalso; simp (disch := omega) only [Int32.lt_iff_toInt_lt, Int32.le_iff_toInt_le, ← Int32.toInt_inj, Int32.reduceToInt, nI_toInt] at c3 c5 c8 m2MDisIn m5MDisIn m2MDisIn_2 m5MDisIn_2 m5MDhasMonths m15 m2MDisIn_3; done)
                          | (exfalso; simp (disch := omega) only [Int32.lt_iff_toInt_lt, Int32.le_iff_toInt_le, ← Int32.toInt_inj, Int32.reduceToInt, nI_toInt] at c3 c5 c8 m2MDisIn m5MDisIn m2MDisIn_2 m5MDisIn_2 m5MDhasMonths m15 m2MDisIn_3; omega)
                      · refine jr_iload rfl rfl ?_
                        refine jr_iload rfl rfl ?_
                        refine jr_icmp_gt rfl (fun m5MDisIn_3 => ?_) (fun m5MDisIn_3 => ?_)
                        · refine jr_ic rfl ?_
                          refine jr_zret rfl rfl rfl (Nat.zero_le _) (Nat.zero_le _) ?_
                          refine jr_zret rfl rfl rfl (Nat.zero_le _) (Nat.zero_le _) ?_
                          refine jr_if_ne rfl (fun z => absurd (by decide) z) (fun _ => ?_)
                          refine jr_ic rfl ?_
                          refine jr_iret rfl rfl (Nat.zero_le _) (Nat.zero_le _) ?_
                          first
                            | exact ⟨rfl, hRel0⟩
                            | (exfalso; omega)
                            | (exfalso; simp (disch := omega) only [Int32.lt_iff_toInt_lt, Int32.le_iff_toInt_le, ← Int32.toInt_inj, Int32.reduceToInt, nI_toInt] at c3 c5 c8 m2MDisIn m5MDisIn m2MDisIn_2 m5MDisIn_2 m5MDhasMonths m15 m2MDisIn_3 m5MDisIn_3; done)
                            | (exfalso; simp (disch := omega) only [Int32.lt_iff_toInt_lt, Int32.le_iff_toInt_le, ← Int32.toInt_inj, Int32.reduceToInt, nI_toInt] at c3 c5 c8 m2MDisIn m5MDisIn m2MDisIn_2 m5MDisIn_2 m5MDhasMonths m15 m2MDisIn_3 m5MDisIn_3; omega)
                        · refine jr_ic rfl ?_
                          refine jr_goto rfl ?_
                          refine jr_zret rfl rfl rfl (Nat.zero_le _) (Nat.zero_le _) ?_
                          refine jr_zret rfl rfl rfl (Nat.zero_le _) (Nat.zero_le _) ?_
                          refine jr_if_ne rfl (fun _ => ?_) (fun z => absurd z (by decide))
                          refine jr_aload rfl rfl ?_
                          refine jr_cv0 (mc' := 0) (ms' := 0) rfl jm_MD_keepHead_n jm_MD_keepHead_f rfl rfl rfl rfl rfl rfl rfl (Nat.zero_le _) (Nat.zero_le _) ?_
                          first
                            | (exfalso; omega)
                            | (exfalso; simp (disch := omega) only [Int32.lt_iff_toInt_lt, Int32.le_iff_toInt_le, ← Int32.toInt_inj, Int32.reduceToInt, nI_toInt] at c3 c5 c8 m2MDisIn m5MDisIn m2MDisIn_2 m5MDisIn_2 m5MDhasMonths m15 m2MDisIn_3 m5MDisIn_3; done)
                            | (exfalso; simp (disch := omega) only [Int32.lt_iff_toInt_lt, Int32.le_iff_toInt_le, ← Int32.toInt_inj, Int32.reduceToInt, nI_toInt] at c3 c5 c8 m2MDisIn m5MDisIn m2MDisIn_2 m5MDisIn_2 m5MDhasMonths m15 m2MDisIn_3 m5MDisIn_3; omega)
  · have hn1 : 0 < jz_nm hm b := by
      rcases Nat.eq_zero_or_pos (jz_nm hm b) with e | e
      · rw [e] at hnm; exact absurd hnm.1 hmo
      · exact e
    rcases Classical.em (y = 0) with rfl | hy0
    · show jx_W (jm_JV_ahead, d + 40, 0, 0, false, 0, _) _ 0 0 0 [some (jv_r 10 0), some (jv_i (nI i)), some (jv_i 0), some (jv_i z)] [] _
      refine jr_aload rfl rfl ?_
      refine jr_getM rfl rfl rfl rfl hto ?_
      refine jr_getI rfl rfl ?_
      refine jr_if_eq rfl (fun c3 => ?_) (fun c3 => ?_)
      · refine jr_ic rfl ?_
        refine jr_iret rfl rfl (Nat.zero_le _) (Nat.zero_le _) ?_
        show jx_W (jm_MD_ahead, d + 40, 0, 0, false, 1, _) _ 0 0 0 [some _, some _, some _, some _, none, none] [] _
        refine jr_iload rfl rfl ?_
        refine jr_ic rfl ?_
        refine jr_ic rfl ?_
        refine jr_cs3 (mc' := 0) (ms' := 0) rfl jm_MD_isIn_n jm_MD_isIn_f rfl rfl rfl rfl rfl (Nat.zero_le _) (Nat.zero_le _) ?_
        show jx_W (jm_MD_isIn, _, _, _, _, _, _) _ 0 0 0 [some _, some _, some _] [] _
        refine jr_iload rfl rfl ?_
        refine jr_iload rfl rfl ?_
        refine jr_icmp_lt rfl (fun m2MDisIn => ?_) (fun m2MDisIn => ?_)
        · refine jr_ic rfl ?_
          refine jr_zret rfl rfl rfl (Nat.zero_le _) (Nat.zero_le _) ?_
          refine jr_if_eq rfl (fun _ => ?_) (fun z => absurd (by decide) z)
          refine jr_ic rfl ?_
          refine jr_iret rfl rfl (Nat.zero_le _) (Nat.zero_le _) ?_
          first
            | exact ⟨rfl, hRel0⟩
            | (exfalso; omega)
            | (exfalso; simp (disch := omega) only [Int32.lt_iff_toInt_lt, Int32.le_iff_toInt_le, ← Int32.toInt_inj, Int32.reduceToInt, nI_toInt] at c3 m2MDisIn; done)
            | (exfalso; simp (disch := omega) only [Int32.lt_iff_toInt_lt, Int32.le_iff_toInt_le, ← Int32.toInt_inj, Int32.reduceToInt, nI_toInt] at c3 m2MDisIn; omega)
        · refine jr_iload rfl rfl ?_
          refine jr_iload rfl rfl ?_
          refine jr_icmp_gt rfl (fun m5MDisIn => ?_) (fun m5MDisIn => ?_)
          · refine jr_ic rfl ?_
            refine jr_zret rfl rfl rfl (Nat.zero_le _) (Nat.zero_le _) ?_
            refine jr_if_eq rfl (fun _ => ?_) (fun z => absurd (by decide) z)
            refine jr_ic rfl ?_
            refine jr_iret rfl rfl (Nat.zero_le _) (Nat.zero_le _) ?_
            first
              | exact ⟨rfl, hRel0⟩
              | (exfalso; omega)
              | (exfalso; simp (disch := omega) only [Int32.lt_iff_toInt_lt, Int32.le_iff_toInt_le, ← Int32.toInt_inj, Int32.reduceToInt, nI_toInt] at c3 m2MDisIn m5MDisIn; done)
              | (exfalso; simp (disch := omega) only [Int32.lt_iff_toInt_lt, Int32.le_iff_toInt_le, ← Int32.toInt_inj, Int32.reduceToInt, nI_toInt] at c3 m2MDisIn m5MDisIn; omega)
          · refine jr_ic rfl ?_
            refine jr_goto rfl ?_
            refine jr_zret rfl rfl rfl (Nat.zero_le _) (Nat.zero_le _) ?_
            refine jr_if_eq rfl (fun z => absurd z (by decide)) (fun _ => ?_)
            refine jr_iload rfl rfl ?_
            refine jr_ic rfl ?_
            refine jr_ic rfl ?_
            refine jr_cs3 (mc' := 0) (ms' := 0) rfl jm_MD_isIn_n jm_MD_isIn_f rfl rfl rfl rfl rfl (Nat.zero_le _) (Nat.zero_le _) ?_
            show jx_W (jm_MD_isIn, _, _, _, _, _, _) _ 0 0 0 [some _, some _, some _] [] _
            refine jr_iload rfl rfl ?_
            refine jr_iload rfl rfl ?_
            refine jr_icmp_lt rfl (fun z => absurd z (by decide)) (fun _ => ?_)
            refine jr_iload rfl rfl ?_
            refine jr_iload rfl rfl ?_
            refine jr_icmp_gt rfl (fun z => absurd z (by decide)) (fun _ => ?_)
            refine jr_ic rfl ?_
            refine jr_goto rfl ?_
            refine jr_zret rfl rfl rfl (Nat.zero_le _) (Nat.zero_le _) ?_
            refine jr_if_eq rfl (fun z => absurd z (by decide)) (fun _ => ?_)
            refine jr_aload rfl rfl ?_
            refine jr_cv0 (mc' := 0) (ms' := 0) rfl jm_MD_hasMonths_n jm_MD_hasMonths_f rfl rfl rfl rfl rfl rfl rfl (Nat.zero_le _) (Nat.zero_le _) ?_
            show jx_W (jm_MD_hasMonths, _, _, _, _, _, _) _ 0 0 0 [some _] [] _
            refine jr_aload rfl rfl ?_
            refine jr_getR rfl rfl rfl rfl (Or.inl rfl) ?_
            refine jr_aload rfl rfl ?_
            refine jr_getI rfl rfl ?_
            refine jr_iald (len := 2) rfl rfl hw.1 (by omega) ?_
            refine jr_if_le rfl (fun m5MDhasMonths => ?_) (fun m5MDhasMonths => ?_)
            · refine jr_ic rfl ?_
              refine jr_zret rfl rfl rfl (Nat.zero_le _) (Nat.zero_le _) ?_
              refine jr_if_eq rfl (fun _ => ?_) (fun z => absurd (by decide) z)
              refine jr_ic rfl ?_
              refine jr_iret rfl rfl (Nat.zero_le _) (Nat.zero_le _) ?_
              first
                | exact ⟨rfl, hRel0⟩
                | (exfalso; omega)
                | (exfalso; simp (disch := omega) only [Int32.lt_iff_toInt_lt, Int32.le_iff_toInt_le, ← Int32.toInt_inj, Int32.reduceToInt, nI_toInt] at c3 m2MDisIn m5MDisIn m5MDhasMonths; done)
                | (exfalso; simp (disch := omega) only [Int32.lt_iff_toInt_lt, Int32.le_iff_toInt_le, ← Int32.toInt_inj, Int32.reduceToInt, nI_toInt] at c3 m2MDisIn m5MDisIn m5MDhasMonths; omega)
            · refine jr_ic rfl ?_
              refine jr_goto rfl ?_
              refine jr_zret rfl rfl rfl (Nat.zero_le _) (Nat.zero_le _) ?_
              refine jr_if_eq rfl (fun z => absurd z (by decide)) (fun _ => ?_)
              refine jr_iload rfl rfl ?_
              refine jr_ic rfl ?_
              refine jr_icmp_ne rfl (fun _ => ?_) (fun z => absurd z (by decide))
              first
                | (exfalso; omega)
                | (exfalso; simp (disch := omega) only [Int32.lt_iff_toInt_lt, Int32.le_iff_toInt_le, ← Int32.toInt_inj, Int32.reduceToInt, nI_toInt] at c3 m2MDisIn m5MDisIn m5MDhasMonths; done)
                | (exfalso; simp (disch := omega) only [Int32.lt_iff_toInt_lt, Int32.le_iff_toInt_le, ← Int32.toInt_inj, Int32.reduceToInt, nI_toInt] at c3 m2MDisIn m5MDisIn m5MDhasMonths; omega)
      · refine jr_iload rfl rfl ?_
        refine jr_if_lt rfl (fun c5 => ?_) (fun c5 => ?_)
        · refine jr_ic rfl ?_
          refine jr_iret rfl rfl (Nat.zero_le _) (Nat.zero_le _) ?_
          show jx_W (jm_MD_ahead, d + 40, 0, 0, false, 1, _) _ 0 0 0 [some _, some _, some _, some _, none, none] [] _
          refine jr_iload rfl rfl ?_
          refine jr_ic rfl ?_
          refine jr_ic rfl ?_
          refine jr_cs3 (mc' := 0) (ms' := 0) rfl jm_MD_isIn_n jm_MD_isIn_f rfl rfl rfl rfl rfl (Nat.zero_le _) (Nat.zero_le _) ?_
          show jx_W (jm_MD_isIn, _, _, _, _, _, _) _ 0 0 0 [some _, some _, some _] [] _
          refine jr_iload rfl rfl ?_
          refine jr_iload rfl rfl ?_
          refine jr_icmp_lt rfl (fun m2MDisIn => ?_) (fun m2MDisIn => ?_)
          · refine jr_ic rfl ?_
            refine jr_zret rfl rfl rfl (Nat.zero_le _) (Nat.zero_le _) ?_
            refine jr_if_eq rfl (fun _ => ?_) (fun z => absurd (by decide) z)
            refine jr_ic rfl ?_
            refine jr_iret rfl rfl (Nat.zero_le _) (Nat.zero_le _) ?_
            first
              | exact ⟨rfl, hRel0⟩
              | (exfalso; omega)
              | (exfalso; simp (disch := omega) only [Int32.lt_iff_toInt_lt, Int32.le_iff_toInt_le, ← Int32.toInt_inj, Int32.reduceToInt, nI_toInt] at c3 c5 m2MDisIn; done)
              | (exfalso; simp (disch := omega) only [Int32.lt_iff_toInt_lt, Int32.le_iff_toInt_le, ← Int32.toInt_inj, Int32.reduceToInt, nI_toInt] at c3 c5 m2MDisIn; omega)
          · refine jr_iload rfl rfl ?_
            refine jr_iload rfl rfl ?_
            refine jr_icmp_gt rfl (fun m5MDisIn => ?_) (fun m5MDisIn => ?_)
            · refine jr_ic rfl ?_
              refine jr_zret rfl rfl rfl (Nat.zero_le _) (Nat.zero_le _) ?_
              refine jr_if_eq rfl (fun _ => ?_) (fun z => absurd (by decide) z)
              refine jr_ic rfl ?_
              refine jr_iret rfl rfl (Nat.zero_le _) (Nat.zero_le _) ?_
              first
                | exact ⟨rfl, hRel0⟩
                | (exfalso; omega)
                | (exfalso; simp (disch := omega) only [Int32.lt_iff_toInt_lt, Int32.le_iff_toInt_le, ← Int32.toInt_inj, Int32.reduceToInt, nI_toInt] at c3 c5 m2MDisIn m5MDisIn; done)
                | (exfalso; simp (disch := omega) only [Int32.lt_iff_toInt_lt, Int32.le_iff_toInt_le, ← Int32.toInt_inj, Int32.reduceToInt, nI_toInt] at c3 c5 m2MDisIn m5MDisIn; omega)
            · refine jr_ic rfl ?_
              refine jr_goto rfl ?_
              refine jr_zret rfl rfl rfl (Nat.zero_le _) (Nat.zero_le _) ?_
              refine jr_if_eq rfl (fun z => absurd z (by decide)) (fun _ => ?_)
              refine jr_iload rfl rfl ?_
              refine jr_ic rfl ?_
              refine jr_ic rfl ?_
              refine jr_cs3 (mc' := 0) (ms' := 0) rfl jm_MD_isIn_n jm_MD_isIn_f rfl rfl rfl rfl rfl (Nat.zero_le _) (Nat.zero_le _) ?_
              show jx_W (jm_MD_isIn, _, _, _, _, _, _) _ 0 0 0 [some _, some _, some _] [] _
              refine jr_iload rfl rfl ?_
              refine jr_iload rfl rfl ?_
              refine jr_icmp_lt rfl (fun z => absurd z (by decide)) (fun _ => ?_)
              refine jr_iload rfl rfl ?_
              refine jr_iload rfl rfl ?_
              refine jr_icmp_gt rfl (fun z => absurd z (by decide)) (fun _ => ?_)
              refine jr_ic rfl ?_
              refine jr_goto rfl ?_
              refine jr_zret rfl rfl rfl (Nat.zero_le _) (Nat.zero_le _) ?_
              refine jr_if_eq rfl (fun z => absurd z (by decide)) (fun _ => ?_)
              refine jr_aload rfl rfl ?_
              refine jr_cv0 (mc' := 0) (ms' := 0) rfl jm_MD_hasMonths_n jm_MD_hasMonths_f rfl rfl rfl rfl rfl rfl rfl (Nat.zero_le _) (Nat.zero_le _) ?_
              show jx_W (jm_MD_hasMonths, _, _, _, _, _, _) _ 0 0 0 [some _] [] _
              refine jr_aload rfl rfl ?_
              refine jr_getR rfl rfl rfl rfl (Or.inl rfl) ?_
              refine jr_aload rfl rfl ?_
              refine jr_getI rfl rfl ?_
              refine jr_iald (len := 2) rfl rfl hw.1 (by omega) ?_
              refine jr_if_le rfl (fun m5MDhasMonths => ?_) (fun m5MDhasMonths => ?_)
              · refine jr_ic rfl ?_
                refine jr_zret rfl rfl rfl (Nat.zero_le _) (Nat.zero_le _) ?_
                refine jr_if_eq rfl (fun _ => ?_) (fun z => absurd (by decide) z)
                refine jr_ic rfl ?_
                refine jr_iret rfl rfl (Nat.zero_le _) (Nat.zero_le _) ?_
                first
                  | exact ⟨rfl, hRel0⟩
                  | (exfalso; omega)
                  | (exfalso; simp (disch := omega) only [Int32.lt_iff_toInt_lt, Int32.le_iff_toInt_le, ← Int32.toInt_inj, Int32.reduceToInt, nI_toInt] at c3 c5 m2MDisIn m5MDisIn m5MDhasMonths; done)
                  | (exfalso; simp (disch := omega) only [Int32.lt_iff_toInt_lt, Int32.le_iff_toInt_le, ← Int32.toInt_inj, Int32.reduceToInt, nI_toInt] at c3 c5 m2MDisIn m5MDisIn m5MDhasMonths; omega)
              · refine jr_ic rfl ?_
                refine jr_goto rfl ?_
                refine jr_zret rfl rfl rfl (Nat.zero_le _) (Nat.zero_le _) ?_
                refine jr_if_eq rfl (fun z => absurd z (by decide)) (fun _ => ?_)
                refine jr_iload rfl rfl ?_
                refine jr_ic rfl ?_
                refine jr_icmp_ne rfl (fun _ => ?_) (fun z => absurd z (by decide))
                first
                  | (exfalso; omega)
                  | (exfalso; simp (disch := omega) only [Int32.lt_iff_toInt_lt, Int32.le_iff_toInt_le, ← Int32.toInt_inj, Int32.reduceToInt, nI_toInt] at c3 c5 m2MDisIn m5MDisIn m5MDhasMonths; done)
                  | (exfalso; simp (disch := omega) only [Int32.lt_iff_toInt_lt, Int32.le_iff_toInt_le, ← Int32.toInt_inj, Int32.reduceToInt, nI_toInt] at c3 c5 m2MDisIn m5MDisIn m5MDhasMonths; omega)
        · refine jr_iload rfl rfl ?_
          refine jr_ic rfl ?_
          refine jr_icmp_le rfl (fun c8 => ?_) (fun c8 => ?_)
          · refine jr_iload rfl rfl ?_
            refine jr_tsw rfl ?_
            refine ⟨fun _ => ?_, fun z => absurd (by decide) z⟩
            refine jr_aload rfl rfl ?_
            refine jr_getR rfl rfl rfl rfl (Or.inl rfl) ?_
            refine jr_aload rfl rfl ?_
            refine jr_getR rfl rfl rfl rfl (Or.inl rfl) ?_
            refine jr_iload rfl rfl ?_
            refine jr_cv2 (mc' := 0) (ms' := 0) rfl jm_For_daysAhead_n jm_For_daysAhead_f rfl rfl rfl rfl rfl rfl rfl (Nat.zero_le _) (Nat.zero_le _) ?_
            show jx_W (jm_For_daysAhead, _, _, _, _, _, _) _ 0 0 0 [some _, some _, some _] [] _
            refine jr_aload rfl rfl ?_
            refine jr_aload rfl rfl ?_
            refine jr_iload rfl rfl ?_
            refine jr_cv2 (mc' := 0) (ms' := 0) rfl jm_For_stepFrom_n jm_For_stepFrom_f rfl rfl rfl rfl rfl rfl rfl (Nat.zero_le _) (Nat.zero_le _) ?_
            refine ev_For_stepFrom hw hmo hR hA g1 (by omega) (fun T1 S1 kc1 hT1 => ?_)
            refine jr_aload rfl rfl ?_
            refine jr_getR rfl rfl rfl rfl (Or.inl rfl) ?_
            refine jr_getI rfl rfl ?_
            refine jr_iret rfl rfl (Nat.zero_le _) (Nat.zero_le _) ?_
            refine jr_iret rfl rfl (Nat.zero_le _) (Nat.zero_le _) ?_
            show jx_W (jm_MD_ahead, d + 40, 0, 0, false, 1, _) _ 0 0 0 [some _, some _, some _, some _, none, none] [] _
            refine jr_iload rfl rfl ?_
            refine jr_ic rfl ?_
            refine jr_ic rfl ?_
            refine jr_cs3 (mc' := 0) (ms' := 0) rfl jm_MD_isIn_n jm_MD_isIn_f rfl rfl rfl rfl rfl (Nat.zero_le _) (Nat.zero_le _) ?_
            show jx_W (jm_MD_isIn, _, _, _, _, _, _) _ 0 0 0 [some _, some _, some _] [] _
            refine jr_iload rfl rfl ?_
            refine jr_iload rfl rfl ?_
            refine jr_icmp_lt rfl (fun m2MDisIn => ?_) (fun m2MDisIn => ?_)
            · refine jr_ic rfl ?_
              refine jr_zret rfl rfl rfl (Nat.zero_le _) (Nat.zero_le _) ?_
              refine jr_if_eq rfl (fun _ => ?_) (fun z => absurd (by decide) z)
              refine jr_ic rfl ?_
              refine jr_iret rfl rfl (Nat.zero_le _) (Nat.zero_le _) ?_
              first
                | exact ⟨rfl, hRel0⟩
                | (exfalso; omega)
                | (exfalso; simp (disch := omega) only [Int32.lt_iff_toInt_lt, Int32.le_iff_toInt_le, ← Int32.toInt_inj, Int32.reduceToInt, nI_toInt] at c3 c5 c8 m2MDisIn; done)
                | (exfalso; simp (disch := omega) only [Int32.lt_iff_toInt_lt, Int32.le_iff_toInt_le, ← Int32.toInt_inj, Int32.reduceToInt, nI_toInt] at c3 c5 c8 m2MDisIn; omega)
            · refine jr_iload rfl rfl ?_
              refine jr_iload rfl rfl ?_
              refine jr_icmp_gt rfl (fun m5MDisIn => ?_) (fun m5MDisIn => ?_)
              · refine jr_ic rfl ?_
                refine jr_zret rfl rfl rfl (Nat.zero_le _) (Nat.zero_le _) ?_
                refine jr_if_eq rfl (fun _ => ?_) (fun z => absurd (by decide) z)
                refine jr_ic rfl ?_
                refine jr_iret rfl rfl (Nat.zero_le _) (Nat.zero_le _) ?_
                first
                  | exact ⟨rfl, hRel0⟩
                  | (exfalso; omega)
                  | (exfalso; simp (disch := omega) only [Int32.lt_iff_toInt_lt, Int32.le_iff_toInt_le, ← Int32.toInt_inj, Int32.reduceToInt, nI_toInt] at c3 c5 c8 m2MDisIn m5MDisIn; done)
                  | (exfalso; simp (disch := omega) only [Int32.lt_iff_toInt_lt, Int32.le_iff_toInt_le, ← Int32.toInt_inj, Int32.reduceToInt, nI_toInt] at c3 c5 c8 m2MDisIn m5MDisIn; omega)
              · refine jr_ic rfl ?_
                refine jr_goto rfl ?_
                refine jr_zret rfl rfl rfl (Nat.zero_le _) (Nat.zero_le _) ?_
                refine jr_if_eq rfl (fun z => absurd z (by decide)) (fun _ => ?_)
                refine jr_iload rfl rfl ?_
                refine jr_ic rfl ?_
                refine jr_ic rfl ?_
                refine jr_cs3 (mc' := 0) (ms' := 0) rfl jm_MD_isIn_n jm_MD_isIn_f rfl rfl rfl rfl rfl (Nat.zero_le _) (Nat.zero_le _) ?_
                show jx_W (jm_MD_isIn, _, _, _, _, _, _) _ 0 0 0 [some _, some _, some _] [] _
                refine jr_iload rfl rfl ?_
                refine jr_iload rfl rfl ?_
                refine jr_icmp_lt rfl (fun z => absurd z (by decide)) (fun _ => ?_)
                refine jr_iload rfl rfl ?_
                refine jr_iload rfl rfl ?_
                refine jr_icmp_gt rfl (fun z => absurd z (by decide)) (fun _ => ?_)
                refine jr_ic rfl ?_
                refine jr_goto rfl ?_
                refine jr_zret rfl rfl rfl (Nat.zero_le _) (Nat.zero_le _) ?_
                refine jr_if_eq rfl (fun z => absurd z (by decide)) (fun _ => ?_)
                refine jr_aload rfl rfl ?_
                refine jr_cv0 (mc' := 0) (ms' := 0) rfl jm_MD_hasMonths_n jm_MD_hasMonths_f rfl rfl rfl rfl rfl rfl rfl (Nat.zero_le _) (Nat.zero_le _) ?_
                show jx_W (jm_MD_hasMonths, _, _, _, _, _, _) _ 0 0 0 [some _] [] _
                refine jr_aload rfl rfl ?_
                refine jr_getR rfl rfl rfl rfl (Or.inl rfl) ?_
                refine jr_aload rfl rfl ?_
                refine jr_getI rfl rfl ?_
                refine jr_iald (len := 2) rfl rfl hw.1 (by omega) ?_
                refine jr_if_le rfl (fun m5MDhasMonths => ?_) (fun m5MDhasMonths => ?_)
                · refine jr_ic rfl ?_
                  refine jr_zret rfl rfl rfl (Nat.zero_le _) (Nat.zero_le _) ?_
                  refine jr_if_eq rfl (fun _ => ?_) (fun z => absurd (by decide) z)
                  refine jr_ic rfl ?_
                  refine jr_iret rfl rfl (Nat.zero_le _) (Nat.zero_le _) ?_
                  first
                    | exact ⟨rfl, hRel0⟩
                    | (exfalso; omega)
                    | (exfalso; simp (disch := omega) only [Int32.lt_iff_toInt_lt, Int32.le_iff_toInt_le, ← Int32.toInt_inj, Int32.reduceToInt, nI_toInt] at c3 c5 c8 m2MDisIn m5MDisIn m5MDhasMonths; done)
                    | (exfalso; simp (disch := omega) only [Int32.lt_iff_toInt_lt, Int32.le_iff_toInt_le, ← Int32.toInt_inj, Int32.reduceToInt, nI_toInt] at c3 c5 c8 m2MDisIn m5MDisIn m5MDhasMonths; omega)
                · refine jr_ic rfl ?_
                  refine jr_goto rfl ?_
                  refine jr_zret rfl rfl rfl (Nat.zero_le _) (Nat.zero_le _) ?_
                  refine jr_if_eq rfl (fun z => absurd z (by decide)) (fun _ => ?_)
                  refine jr_iload rfl rfl ?_
                  refine jr_ic rfl ?_
                  refine jr_icmp_ne rfl (fun _ => ?_) (fun z => absurd z (by decide))
                  refine lp_MD_ahead_0 (p := 0) hw hmo (by decide) g1 (by omega) (fun S5 hS5 => ?_)
                  exact ⟨congrArg (fun z => some (jv_i z)) hT1.2.1, (jz_Rel_s hRel0 hS5)⟩
          · refine jr_ic rfl ?_
            refine jr_iret rfl rfl (Nat.zero_le _) (Nat.zero_le _) ?_
            show jx_W (jm_MD_ahead, d + 40, 0, 0, false, 1, _) _ 0 0 0 [some _, some _, some _, some _, none, none] [] _
            refine jr_iload rfl rfl ?_
            refine jr_ic rfl ?_
            refine jr_ic rfl ?_
            refine jr_cs3 (mc' := 0) (ms' := 0) rfl jm_MD_isIn_n jm_MD_isIn_f rfl rfl rfl rfl rfl (Nat.zero_le _) (Nat.zero_le _) ?_
            show jx_W (jm_MD_isIn, _, _, _, _, _, _) _ 0 0 0 [some _, some _, some _] [] _
            refine jr_iload rfl rfl ?_
            refine jr_iload rfl rfl ?_
            refine jr_icmp_lt rfl (fun m2MDisIn => ?_) (fun m2MDisIn => ?_)
            · refine jr_ic rfl ?_
              refine jr_zret rfl rfl rfl (Nat.zero_le _) (Nat.zero_le _) ?_
              refine jr_if_eq rfl (fun _ => ?_) (fun z => absurd (by decide) z)
              refine jr_ic rfl ?_
              refine jr_iret rfl rfl (Nat.zero_le _) (Nat.zero_le _) ?_
              first
                | exact ⟨rfl, hRel0⟩
                | (exfalso; omega)
                | (exfalso; simp (disch := omega) only [Int32.lt_iff_toInt_lt, Int32.le_iff_toInt_le, ← Int32.toInt_inj, Int32.reduceToInt, nI_toInt] at c3 c5 c8 m2MDisIn; done)
                | (exfalso; simp (disch := omega) only [Int32.lt_iff_toInt_lt, Int32.le_iff_toInt_le, ← Int32.toInt_inj, Int32.reduceToInt, nI_toInt] at c3 c5 c8 m2MDisIn; omega)
            · refine jr_iload rfl rfl ?_
              refine jr_iload rfl rfl ?_
              refine jr_icmp_gt rfl (fun m5MDisIn => ?_) (fun m5MDisIn => ?_)
              · refine jr_ic rfl ?_
                refine jr_zret rfl rfl rfl (Nat.zero_le _) (Nat.zero_le _) ?_
                refine jr_if_eq rfl (fun _ => ?_) (fun z => absurd (by decide) z)
                refine jr_ic rfl ?_
                refine jr_iret rfl rfl (Nat.zero_le _) (Nat.zero_le _) ?_
                first
                  | exact ⟨rfl, hRel0⟩
                  | (exfalso; omega)
                  | (exfalso; simp (disch := omega) only [Int32.lt_iff_toInt_lt, Int32.le_iff_toInt_le, ← Int32.toInt_inj, Int32.reduceToInt, nI_toInt] at c3 c5 c8 m2MDisIn m5MDisIn; done)
                  | (exfalso; simp (disch := omega) only [Int32.lt_iff_toInt_lt, Int32.le_iff_toInt_le, ← Int32.toInt_inj, Int32.reduceToInt, nI_toInt] at c3 c5 c8 m2MDisIn m5MDisIn; omega)
              · refine jr_ic rfl ?_
                refine jr_goto rfl ?_
                refine jr_zret rfl rfl rfl (Nat.zero_le _) (Nat.zero_le _) ?_
                refine jr_if_eq rfl (fun z => absurd z (by decide)) (fun _ => ?_)
                refine jr_iload rfl rfl ?_
                refine jr_ic rfl ?_
                refine jr_ic rfl ?_
                refine jr_cs3 (mc' := 0) (ms' := 0) rfl jm_MD_isIn_n jm_MD_isIn_f rfl rfl rfl rfl rfl (Nat.zero_le _) (Nat.zero_le _) ?_
                show jx_W (jm_MD_isIn, _, _, _, _, _, _) _ 0 0 0 [some _, some _, some _] [] _
                refine jr_iload rfl rfl ?_
                refine jr_iload rfl rfl ?_
                refine jr_icmp_lt rfl (fun z => absurd z (by decide)) (fun _ => ?_)
                refine jr_iload rfl rfl ?_
                refine jr_iload rfl rfl ?_
                refine jr_icmp_gt rfl (fun z => absurd z (by decide)) (fun _ => ?_)
                refine jr_ic rfl ?_
                refine jr_goto rfl ?_
                refine jr_zret rfl rfl rfl (Nat.zero_le _) (Nat.zero_le _) ?_
                refine jr_if_eq rfl (fun z => absurd z (by decide)) (fun _ => ?_)
                refine jr_aload rfl rfl ?_
                refine jr_cv0 (mc' := 0) (ms' := 0) rfl jm_MD_hasMonths_n jm_MD_hasMonths_f rfl rfl rfl rfl rfl rfl rfl (Nat.zero_le _) (Nat.zero_le _) ?_
                show jx_W (jm_MD_hasMonths, _, _, _, _, _, _) _ 0 0 0 [some _] [] _
                refine jr_aload rfl rfl ?_
                refine jr_getR rfl rfl rfl rfl (Or.inl rfl) ?_
                refine jr_aload rfl rfl ?_
                refine jr_getI rfl rfl ?_
                refine jr_iald (len := 2) rfl rfl hw.1 (by omega) ?_
                refine jr_if_le rfl (fun m5MDhasMonths => ?_) (fun m5MDhasMonths => ?_)
                · refine jr_ic rfl ?_
                  refine jr_zret rfl rfl rfl (Nat.zero_le _) (Nat.zero_le _) ?_
                  refine jr_if_eq rfl (fun _ => ?_) (fun z => absurd (by decide) z)
                  refine jr_ic rfl ?_
                  refine jr_iret rfl rfl (Nat.zero_le _) (Nat.zero_le _) ?_
                  first
                    | exact ⟨rfl, hRel0⟩
                    | (exfalso; omega)
                    | (exfalso; simp (disch := omega) only [Int32.lt_iff_toInt_lt, Int32.le_iff_toInt_le, ← Int32.toInt_inj, Int32.reduceToInt, nI_toInt] at c3 c5 c8 m2MDisIn m5MDisIn m5MDhasMonths; done)
                    | (exfalso; simp (disch := omega) only [Int32.lt_iff_toInt_lt, Int32.le_iff_toInt_le, ← Int32.toInt_inj, Int32.reduceToInt, nI_toInt] at c3 c5 c8 m2MDisIn m5MDisIn m5MDhasMonths; omega)
                · refine jr_ic rfl ?_
                  refine jr_goto rfl ?_
                  refine jr_zret rfl rfl rfl (Nat.zero_le _) (Nat.zero_le _) ?_
                  refine jr_if_eq rfl (fun z => absurd z (by decide)) (fun _ => ?_)
                  refine jr_iload rfl rfl ?_
                  refine jr_ic rfl ?_
                  refine jr_icmp_ne rfl (fun _ => ?_) (fun z => absurd z (by decide))
                  first
                    | (exfalso; omega)
                    | (exfalso; simp (disch := omega) only [Int32.lt_iff_toInt_lt, Int32.le_iff_toInt_le, ← Int32.toInt_inj, Int32.reduceToInt, nI_toInt] at c3 c5 c8 m2MDisIn m5MDisIn m5MDhasMonths; done)
                    | (exfalso; simp (disch := omega) only [Int32.lt_iff_toInt_lt, Int32.le_iff_toInt_le, ← Int32.toInt_inj, Int32.reduceToInt, nI_toInt] at c3 c5 c8 m2MDisIn m5MDisIn m5MDhasMonths; omega)
    · rcases Classical.em (y = 1) with rfl | hy1
      · show jx_W (jm_JV_ahead, d + 40, 0, 0, false, 0, _) _ 0 0 0 [some (jv_r 10 0), some (jv_i (nI i)), some (jv_i 1), some (jv_i z)] [] _
        refine jr_aload rfl rfl ?_
        refine jr_getM rfl rfl rfl rfl hto ?_
        refine jr_getI rfl rfl ?_
        refine jr_if_eq rfl (fun c3 => ?_) (fun c3 => ?_)
        · refine jr_ic rfl ?_
          refine jr_iret rfl rfl (Nat.zero_le _) (Nat.zero_le _) ?_
          show jx_W (jm_MD_ahead, d + 40, 0, 0, false, 1, _) _ 0 0 0 [some _, some _, some _, some _, none, none] [] _
          refine jr_iload rfl rfl ?_
          refine jr_ic rfl ?_
          refine jr_ic rfl ?_
          refine jr_cs3 (mc' := 0) (ms' := 0) rfl jm_MD_isIn_n jm_MD_isIn_f rfl rfl rfl rfl rfl (Nat.zero_le _) (Nat.zero_le _) ?_
          show jx_W (jm_MD_isIn, _, _, _, _, _, _) _ 0 0 0 [some _, some _, some _] [] _
          refine jr_iload rfl rfl ?_
          refine jr_iload rfl rfl ?_
          refine jr_icmp_lt rfl (fun m2MDisIn => ?_) (fun m2MDisIn => ?_)
          · refine jr_ic rfl ?_
            refine jr_zret rfl rfl rfl (Nat.zero_le _) (Nat.zero_le _) ?_
            refine jr_if_eq rfl (fun _ => ?_) (fun z => absurd (by decide) z)
            refine jr_ic rfl ?_
            refine jr_iret rfl rfl (Nat.zero_le _) (Nat.zero_le _) ?_
            first
              | exact ⟨rfl, hRel0⟩
              | (exfalso; omega)
              | (exfalso; simp (disch := omega) only [Int32.lt_iff_toInt_lt, Int32.le_iff_toInt_le, ← Int32.toInt_inj, Int32.reduceToInt, nI_toInt] at c3 m2MDisIn; done)
              | (exfalso; simp (disch := omega) only [Int32.lt_iff_toInt_lt, Int32.le_iff_toInt_le, ← Int32.toInt_inj, Int32.reduceToInt, nI_toInt] at c3 m2MDisIn; omega)
          · refine jr_iload rfl rfl ?_
            refine jr_iload rfl rfl ?_
            refine jr_icmp_gt rfl (fun m5MDisIn => ?_) (fun m5MDisIn => ?_)
            · refine jr_ic rfl ?_
              refine jr_zret rfl rfl rfl (Nat.zero_le _) (Nat.zero_le _) ?_
              refine jr_if_eq rfl (fun _ => ?_) (fun z => absurd (by decide) z)
              refine jr_ic rfl ?_
              refine jr_iret rfl rfl (Nat.zero_le _) (Nat.zero_le _) ?_
              first
                | exact ⟨rfl, hRel0⟩
                | (exfalso; omega)
                | (exfalso; simp (disch := omega) only [Int32.lt_iff_toInt_lt, Int32.le_iff_toInt_le, ← Int32.toInt_inj, Int32.reduceToInt, nI_toInt] at c3 m2MDisIn m5MDisIn; done)
                | (exfalso; simp (disch := omega) only [Int32.lt_iff_toInt_lt, Int32.le_iff_toInt_le, ← Int32.toInt_inj, Int32.reduceToInt, nI_toInt] at c3 m2MDisIn m5MDisIn; omega)
            · refine jr_ic rfl ?_
              refine jr_goto rfl ?_
              refine jr_zret rfl rfl rfl (Nat.zero_le _) (Nat.zero_le _) ?_
              refine jr_if_eq rfl (fun z => absurd z (by decide)) (fun _ => ?_)
              refine jr_iload rfl rfl ?_
              refine jr_ic rfl ?_
              refine jr_ic rfl ?_
              refine jr_cs3 (mc' := 0) (ms' := 0) rfl jm_MD_isIn_n jm_MD_isIn_f rfl rfl rfl rfl rfl (Nat.zero_le _) (Nat.zero_le _) ?_
              show jx_W (jm_MD_isIn, _, _, _, _, _, _) _ 0 0 0 [some _, some _, some _] [] _
              refine jr_iload rfl rfl ?_
              refine jr_iload rfl rfl ?_
              refine jr_icmp_lt rfl (fun z => absurd z (by decide)) (fun _ => ?_)
              refine jr_iload rfl rfl ?_
              refine jr_iload rfl rfl ?_
              refine jr_icmp_gt rfl (fun z => absurd z (by decide)) (fun _ => ?_)
              refine jr_ic rfl ?_
              refine jr_goto rfl ?_
              refine jr_zret rfl rfl rfl (Nat.zero_le _) (Nat.zero_le _) ?_
              refine jr_if_eq rfl (fun z => absurd z (by decide)) (fun _ => ?_)
              refine jr_aload rfl rfl ?_
              refine jr_cv0 (mc' := 0) (ms' := 0) rfl jm_MD_hasMonths_n jm_MD_hasMonths_f rfl rfl rfl rfl rfl rfl rfl (Nat.zero_le _) (Nat.zero_le _) ?_
              show jx_W (jm_MD_hasMonths, _, _, _, _, _, _) _ 0 0 0 [some _] [] _
              refine jr_aload rfl rfl ?_
              refine jr_getR rfl rfl rfl rfl (Or.inl rfl) ?_
              refine jr_aload rfl rfl ?_
              refine jr_getI rfl rfl ?_
              refine jr_iald (len := 2) rfl rfl hw.1 (by omega) ?_
              refine jr_if_le rfl (fun m5MDhasMonths => ?_) (fun m5MDhasMonths => ?_)
              · refine jr_ic rfl ?_
                refine jr_zret rfl rfl rfl (Nat.zero_le _) (Nat.zero_le _) ?_
                refine jr_if_eq rfl (fun _ => ?_) (fun z => absurd (by decide) z)
                refine jr_ic rfl ?_
                refine jr_iret rfl rfl (Nat.zero_le _) (Nat.zero_le _) ?_
                first
                  | exact ⟨rfl, hRel0⟩
                  | (exfalso; omega)
                  | (exfalso; simp (disch := omega) only [Int32.lt_iff_toInt_lt, Int32.le_iff_toInt_le, ← Int32.toInt_inj, Int32.reduceToInt, nI_toInt] at c3 m2MDisIn m5MDisIn m5MDhasMonths; done)
                  | (exfalso; simp (disch := omega) only [Int32.lt_iff_toInt_lt, Int32.le_iff_toInt_le, ← Int32.toInt_inj, Int32.reduceToInt, nI_toInt] at c3 m2MDisIn m5MDisIn m5MDhasMonths; omega)
              · refine jr_ic rfl ?_
                refine jr_goto rfl ?_
                refine jr_zret rfl rfl rfl (Nat.zero_le _) (Nat.zero_le _) ?_
                refine jr_if_eq rfl (fun z => absurd z (by decide)) (fun _ => ?_)
                refine jr_iload rfl rfl ?_
                refine jr_ic rfl ?_
                refine jr_icmp_ne rfl (fun _ => ?_) (fun z => absurd z (by decide))
                first
                  | (exfalso; omega)
                  | (exfalso; simp (disch := omega) only [Int32.lt_iff_toInt_lt, Int32.le_iff_toInt_le, ← Int32.toInt_inj, Int32.reduceToInt, nI_toInt] at c3 m2MDisIn m5MDisIn m5MDhasMonths; done)
                  | (exfalso; simp (disch := omega) only [Int32.lt_iff_toInt_lt, Int32.le_iff_toInt_le, ← Int32.toInt_inj, Int32.reduceToInt, nI_toInt] at c3 m2MDisIn m5MDisIn m5MDhasMonths; omega)
        · refine jr_iload rfl rfl ?_
          refine jr_if_lt rfl (fun c5 => ?_) (fun c5 => ?_)
          · refine jr_ic rfl ?_
            refine jr_iret rfl rfl (Nat.zero_le _) (Nat.zero_le _) ?_
            show jx_W (jm_MD_ahead, d + 40, 0, 0, false, 1, _) _ 0 0 0 [some _, some _, some _, some _, none, none] [] _
            refine jr_iload rfl rfl ?_
            refine jr_ic rfl ?_
            refine jr_ic rfl ?_
            refine jr_cs3 (mc' := 0) (ms' := 0) rfl jm_MD_isIn_n jm_MD_isIn_f rfl rfl rfl rfl rfl (Nat.zero_le _) (Nat.zero_le _) ?_
            show jx_W (jm_MD_isIn, _, _, _, _, _, _) _ 0 0 0 [some _, some _, some _] [] _
            refine jr_iload rfl rfl ?_
            refine jr_iload rfl rfl ?_
            refine jr_icmp_lt rfl (fun m2MDisIn => ?_) (fun m2MDisIn => ?_)
            · refine jr_ic rfl ?_
              refine jr_zret rfl rfl rfl (Nat.zero_le _) (Nat.zero_le _) ?_
              refine jr_if_eq rfl (fun _ => ?_) (fun z => absurd (by decide) z)
              refine jr_ic rfl ?_
              refine jr_iret rfl rfl (Nat.zero_le _) (Nat.zero_le _) ?_
              first
                | exact ⟨rfl, hRel0⟩
                | (exfalso; omega)
                | (exfalso; simp (disch := omega) only [Int32.lt_iff_toInt_lt, Int32.le_iff_toInt_le, ← Int32.toInt_inj, Int32.reduceToInt, nI_toInt] at c3 c5 m2MDisIn; done)
                | (exfalso; simp (disch := omega) only [Int32.lt_iff_toInt_lt, Int32.le_iff_toInt_le, ← Int32.toInt_inj, Int32.reduceToInt, nI_toInt] at c3 c5 m2MDisIn; omega)
            · refine jr_iload rfl rfl ?_
              refine jr_iload rfl rfl ?_
              refine jr_icmp_gt rfl (fun m5MDisIn => ?_) (fun m5MDisIn => ?_)
              · refine jr_ic rfl ?_
                refine jr_zret rfl rfl rfl (Nat.zero_le _) (Nat.zero_le _) ?_
                refine jr_if_eq rfl (fun _ => ?_) (fun z => absurd (by decide) z)
                refine jr_ic rfl ?_
                refine jr_iret rfl rfl (Nat.zero_le _) (Nat.zero_le _) ?_
                first
                  | exact ⟨rfl, hRel0⟩
                  | (exfalso; omega)
                  | (exfalso; simp (disch := omega) only [Int32.lt_iff_toInt_lt, Int32.le_iff_toInt_le, ← Int32.toInt_inj, Int32.reduceToInt, nI_toInt] at c3 c5 m2MDisIn m5MDisIn; done)
                  | (exfalso; simp (disch := omega) only [Int32.lt_iff_toInt_lt, Int32.le_iff_toInt_le, ← Int32.toInt_inj, Int32.reduceToInt, nI_toInt] at c3 c5 m2MDisIn m5MDisIn; omega)
              · refine jr_ic rfl ?_
                refine jr_goto rfl ?_
                refine jr_zret rfl rfl rfl (Nat.zero_le _) (Nat.zero_le _) ?_
                refine jr_if_eq rfl (fun z => absurd z (by decide)) (fun _ => ?_)
                refine jr_iload rfl rfl ?_
                refine jr_ic rfl ?_
                refine jr_ic rfl ?_
                refine jr_cs3 (mc' := 0) (ms' := 0) rfl jm_MD_isIn_n jm_MD_isIn_f rfl rfl rfl rfl rfl (Nat.zero_le _) (Nat.zero_le _) ?_
                show jx_W (jm_MD_isIn, _, _, _, _, _, _) _ 0 0 0 [some _, some _, some _] [] _
                refine jr_iload rfl rfl ?_
                refine jr_iload rfl rfl ?_
                refine jr_icmp_lt rfl (fun z => absurd z (by decide)) (fun _ => ?_)
                refine jr_iload rfl rfl ?_
                refine jr_iload rfl rfl ?_
                refine jr_icmp_gt rfl (fun z => absurd z (by decide)) (fun _ => ?_)
                refine jr_ic rfl ?_
                refine jr_goto rfl ?_
                refine jr_zret rfl rfl rfl (Nat.zero_le _) (Nat.zero_le _) ?_
                refine jr_if_eq rfl (fun z => absurd z (by decide)) (fun _ => ?_)
                refine jr_aload rfl rfl ?_
                refine jr_cv0 (mc' := 0) (ms' := 0) rfl jm_MD_hasMonths_n jm_MD_hasMonths_f rfl rfl rfl rfl rfl rfl rfl (Nat.zero_le _) (Nat.zero_le _) ?_
                show jx_W (jm_MD_hasMonths, _, _, _, _, _, _) _ 0 0 0 [some _] [] _
                refine jr_aload rfl rfl ?_
                refine jr_getR rfl rfl rfl rfl (Or.inl rfl) ?_
                refine jr_aload rfl rfl ?_
                refine jr_getI rfl rfl ?_
                refine jr_iald (len := 2) rfl rfl hw.1 (by omega) ?_
                refine jr_if_le rfl (fun m5MDhasMonths => ?_) (fun m5MDhasMonths => ?_)
                · refine jr_ic rfl ?_
                  refine jr_zret rfl rfl rfl (Nat.zero_le _) (Nat.zero_le _) ?_
                  refine jr_if_eq rfl (fun _ => ?_) (fun z => absurd (by decide) z)
                  refine jr_ic rfl ?_
                  refine jr_iret rfl rfl (Nat.zero_le _) (Nat.zero_le _) ?_
                  first
                    | exact ⟨rfl, hRel0⟩
                    | (exfalso; omega)
                    | (exfalso; simp (disch := omega) only [Int32.lt_iff_toInt_lt, Int32.le_iff_toInt_le, ← Int32.toInt_inj, Int32.reduceToInt, nI_toInt] at c3 c5 m2MDisIn m5MDisIn m5MDhasMonths; done)
                    | (exfalso; simp (disch := omega) only [Int32.lt_iff_toInt_lt, Int32.le_iff_toInt_le, ← Int32.toInt_inj, Int32.reduceToInt, nI_toInt] at c3 c5 m2MDisIn m5MDisIn m5MDhasMonths; omega)
                · refine jr_ic rfl ?_
                  refine jr_goto rfl ?_
                  refine jr_zret rfl rfl rfl (Nat.zero_le _) (Nat.zero_le _) ?_
                  refine jr_if_eq rfl (fun z => absurd z (by decide)) (fun _ => ?_)
                  refine jr_iload rfl rfl ?_
                  refine jr_ic rfl ?_
                  refine jr_icmp_ne rfl (fun _ => ?_) (fun z => absurd z (by decide))
                  first
                    | (exfalso; omega)
                    | (exfalso; simp (disch := omega) only [Int32.lt_iff_toInt_lt, Int32.le_iff_toInt_le, ← Int32.toInt_inj, Int32.reduceToInt, nI_toInt] at c3 c5 m2MDisIn m5MDisIn m5MDhasMonths; done)
                    | (exfalso; simp (disch := omega) only [Int32.lt_iff_toInt_lt, Int32.le_iff_toInt_le, ← Int32.toInt_inj, Int32.reduceToInt, nI_toInt] at c3 c5 m2MDisIn m5MDisIn m5MDhasMonths; omega)
          · refine jr_iload rfl rfl ?_
            refine jr_ic rfl ?_
            refine jr_icmp_le rfl (fun c8 => ?_) (fun c8 => ?_)
            · refine jr_iload rfl rfl ?_
              refine jr_tsw rfl ?_
              refine ⟨fun z => absurd z (by decide), fun _ => ?_⟩
              refine ⟨fun _ => ?_, fun z => absurd (by decide) z⟩
              refine jr_aload rfl rfl ?_
              refine jr_getR rfl rfl rfl rfl (Or.inl rfl) ?_
              refine jr_aload rfl rfl ?_
              refine jr_getR rfl rfl rfl rfl (Or.inl rfl) ?_
              refine jr_iload rfl rfl ?_
              refine jr_cv2 (mc' := 0) (ms' := 0) rfl jm_For_lapsesAhead_n jm_For_lapsesAhead_f rfl rfl rfl rfl rfl rfl rfl (Nat.zero_le _) (Nat.zero_le _) ?_
              show jx_W (jm_For_lapsesAhead, _, _, _, _, _, _) _ 0 0 0 [some _, some _, some _, none, none] [] _
              refine jr_aload rfl rfl ?_
              refine jr_aload rfl rfl ?_
              refine jr_iload rfl rfl ?_
              refine jr_cv2 (mc' := 0) (ms' := 0) rfl jm_For_stepFrom_n jm_For_stepFrom_f rfl rfl rfl rfl rfl rfl rfl (Nat.zero_le _) (Nat.zero_le _) ?_
              refine ev_For_stepFrom hw hmo hR hA g1 (by omega) (fun T1 S1 kc1 hT1 => ?_)
              refine jr_ic rfl ?_
              refine jr_ist3 rfl rfl ?_
              refine jr_ic rfl ?_
              refine jr_ist4 rfl rfl ?_
              have hcl : jw_sum (fun d => T1 35 d - jh_I hc 35 0 d) 12 = jw_sum (fun d => jw_nxs hm b i (jA hm) (24 + d) - jA hm (24 + d)) (jz_nd hm b) := by
                have e : jw_sum (fun d => T1 35 d - jh_I hc 35 0 d) 12 = jw_sum (fun d => jw_nxs hm b i (jA hm) (24 + d) - jA hm (24 + d)) 12 := jw_sum_congr (fun j hj => by rw [(hT1.2.2.2 j hj).2.1, (hA.2.2.2.2 j hj).2.1])
                rw [e]
                have := jw_sum_ext (f := fun d => jw_nxs hm b i (jA hm) (24 + d) - jA hm (24 + d)) (n := jz_nd hm b) (m := 12 - jz_nd hm b) (fun j h1 h2 => by
                  show jw_nxs hm b i (jA hm) (24 + j) - jA hm (24 + j) = 0
                  rw [jw_nxs_l hw.2.2.1 h1, Int32.sub_self])
                rw [show jz_nd hm b + (12 - jz_nd hm b) = 12 by have := hw.2.2.1.2.2.1.2; omega] at this
                exact this
              refine lp_For_lapses 0 (by omega) ?_
              refine jr_iret rfl rfl (Nat.zero_le _) (Nat.zero_le _) ?_
              show jx_W (jm_MD_ahead, d + 40, 0, 0, false, 1, _) _ 0 0 0 [some _, some _, some _, some _, none, none] [] _
              refine jr_iload rfl rfl ?_
              refine jr_ic rfl ?_
              refine jr_ic rfl ?_
              refine jr_cs3 (mc' := 0) (ms' := 0) rfl jm_MD_isIn_n jm_MD_isIn_f rfl rfl rfl rfl rfl (Nat.zero_le _) (Nat.zero_le _) ?_
              show jx_W (jm_MD_isIn, _, _, _, _, _, _) _ 0 0 0 [some _, some _, some _] [] _
              refine jr_iload rfl rfl ?_
              refine jr_iload rfl rfl ?_
              refine jr_icmp_lt rfl (fun m2MDisIn => ?_) (fun m2MDisIn => ?_)
              · refine jr_ic rfl ?_
                refine jr_zret rfl rfl rfl (Nat.zero_le _) (Nat.zero_le _) ?_
                refine jr_if_eq rfl (fun _ => ?_) (fun z => absurd (by decide) z)
                refine jr_ic rfl ?_
                refine jr_iret rfl rfl (Nat.zero_le _) (Nat.zero_le _) ?_
                first
                  | (exfalso; omega)
                  | (exfalso; simp (disch := omega) only [Int32.lt_iff_toInt_lt, Int32.le_iff_toInt_le, ← Int32.toInt_inj, Int32.reduceToInt, nI_toInt] at m2MDisIn; done)
                  | (exfalso; simp (disch := omega) only [Int32.lt_iff_toInt_lt, Int32.le_iff_toInt_le, ← Int32.toInt_inj, Int32.reduceToInt, nI_toInt] at m2MDisIn; omega)
              · refine jr_iload rfl rfl ?_
                refine jr_iload rfl rfl ?_
                refine jr_icmp_gt rfl (fun m5MDisIn => ?_) (fun m5MDisIn => ?_)
                · refine jr_ic rfl ?_
                  refine jr_zret rfl rfl rfl (Nat.zero_le _) (Nat.zero_le _) ?_
                  refine jr_if_eq rfl (fun _ => ?_) (fun z => absurd (by decide) z)
                  refine jr_ic rfl ?_
                  refine jr_iret rfl rfl (Nat.zero_le _) (Nat.zero_le _) ?_
                  first
                    | (exfalso; omega)
                    | (exfalso; simp (disch := omega) only [Int32.lt_iff_toInt_lt, Int32.le_iff_toInt_le, ← Int32.toInt_inj, Int32.reduceToInt, nI_toInt] at m2MDisIn m5MDisIn; done)
                    | (exfalso; simp (disch := omega) only [Int32.lt_iff_toInt_lt, Int32.le_iff_toInt_le, ← Int32.toInt_inj, Int32.reduceToInt, nI_toInt] at m2MDisIn m5MDisIn; omega)
                · refine jr_ic rfl ?_
                  refine jr_goto rfl ?_
                  refine jr_zret rfl rfl rfl (Nat.zero_le _) (Nat.zero_le _) ?_
                  refine jr_if_eq rfl (fun z => absurd z (by decide)) (fun _ => ?_)
                  refine jr_iload rfl rfl ?_
                  refine jr_ic rfl ?_
                  refine jr_ic rfl ?_
                  refine jr_cs3 (mc' := 0) (ms' := 0) rfl jm_MD_isIn_n jm_MD_isIn_f rfl rfl rfl rfl rfl (Nat.zero_le _) (Nat.zero_le _) ?_
                  show jx_W (jm_MD_isIn, _, _, _, _, _, _) _ 0 0 0 [some _, some _, some _] [] _
                  refine jr_iload rfl rfl ?_
                  refine jr_iload rfl rfl ?_
                  refine jr_icmp_lt rfl (fun z => absurd z (by decide)) (fun _ => ?_)
                  refine jr_iload rfl rfl ?_
                  refine jr_iload rfl rfl ?_
                  refine jr_icmp_gt rfl (fun z => absurd z (by decide)) (fun _ => ?_)
                  refine jr_ic rfl ?_
                  refine jr_goto rfl ?_
                  refine jr_zret rfl rfl rfl (Nat.zero_le _) (Nat.zero_le _) ?_
                  refine jr_if_eq rfl (fun z => absurd z (by decide)) (fun _ => ?_)
                  refine jr_aload rfl rfl ?_
                  refine jr_cv0 (mc' := 0) (ms' := 0) rfl jm_MD_hasMonths_n jm_MD_hasMonths_f rfl rfl rfl rfl rfl rfl rfl (Nat.zero_le _) (Nat.zero_le _) ?_
                  show jx_W (jm_MD_hasMonths, _, _, _, _, _, _) _ 0 0 0 [some _] [] _
                  refine jr_aload rfl rfl ?_
                  refine jr_getR rfl rfl rfl rfl (Or.inl rfl) ?_
                  refine jr_aload rfl rfl ?_
                  refine jr_getI rfl rfl ?_
                  refine jr_iald (len := 2) rfl rfl hw.1 (by omega) ?_
                  refine jr_if_le rfl (fun m5MDhasMonths => ?_) (fun m5MDhasMonths => ?_)
                  · refine jr_ic rfl ?_
                    refine jr_zret rfl rfl rfl (Nat.zero_le _) (Nat.zero_le _) ?_
                    refine jr_if_eq rfl (fun _ => ?_) (fun z => absurd (by decide) z)
                    refine jr_ic rfl ?_
                    refine jr_iret rfl rfl (Nat.zero_le _) (Nat.zero_le _) ?_
                    first
                      | (exfalso; omega)
                      | (exfalso; simp (disch := omega) only [Int32.lt_iff_toInt_lt, Int32.le_iff_toInt_le, ← Int32.toInt_inj, Int32.reduceToInt, nI_toInt] at m2MDisIn m5MDisIn m5MDhasMonths; done)
                      | (exfalso; simp (disch := omega) only [Int32.lt_iff_toInt_lt, Int32.le_iff_toInt_le, ← Int32.toInt_inj, Int32.reduceToInt, nI_toInt] at m2MDisIn m5MDisIn m5MDhasMonths; omega)
                  · refine jr_ic rfl ?_
                    refine jr_goto rfl ?_
                    refine jr_zret rfl rfl rfl (Nat.zero_le _) (Nat.zero_le _) ?_
                    refine jr_if_eq rfl (fun z => absurd z (by decide)) (fun _ => ?_)
                    refine jr_iload rfl rfl ?_
                    refine jr_ic rfl ?_
                    refine jr_icmp_ne rfl (fun _ => ?_) (fun z => absurd z (by decide))
                    refine lp_MD_ahead_1 (p := 0) hw hmo (by decide) g1 (by omega) (fun S5 hS5 => ?_)
                    refine ⟨congrArg (fun z => some (jv_i z)) ?_, (jz_Rel_s hRel0 hS5)⟩
                    rw [← jw_sum_sub, ← hcl]
            · refine jr_ic rfl ?_
              refine jr_iret rfl rfl (Nat.zero_le _) (Nat.zero_le _) ?_
              show jx_W (jm_MD_ahead, d + 40, 0, 0, false, 1, _) _ 0 0 0 [some _, some _, some _, some _, none, none] [] _
              refine jr_iload rfl rfl ?_
              refine jr_ic rfl ?_
              refine jr_ic rfl ?_
              refine jr_cs3 (mc' := 0) (ms' := 0) rfl jm_MD_isIn_n jm_MD_isIn_f rfl rfl rfl rfl rfl (Nat.zero_le _) (Nat.zero_le _) ?_
              show jx_W (jm_MD_isIn, _, _, _, _, _, _) _ 0 0 0 [some _, some _, some _] [] _
              refine jr_iload rfl rfl ?_
              refine jr_iload rfl rfl ?_
              refine jr_icmp_lt rfl (fun m2MDisIn => ?_) (fun m2MDisIn => ?_)
              · refine jr_ic rfl ?_
                refine jr_zret rfl rfl rfl (Nat.zero_le _) (Nat.zero_le _) ?_
                refine jr_if_eq rfl (fun _ => ?_) (fun z => absurd (by decide) z)
                refine jr_ic rfl ?_
                refine jr_iret rfl rfl (Nat.zero_le _) (Nat.zero_le _) ?_
                first
                  | exact ⟨rfl, hRel0⟩
                  | (exfalso; omega)
                  | (exfalso; simp (disch := omega) only [Int32.lt_iff_toInt_lt, Int32.le_iff_toInt_le, ← Int32.toInt_inj, Int32.reduceToInt, nI_toInt] at c3 c5 c8 m2MDisIn; done)
                  | (exfalso; simp (disch := omega) only [Int32.lt_iff_toInt_lt, Int32.le_iff_toInt_le, ← Int32.toInt_inj, Int32.reduceToInt, nI_toInt] at c3 c5 c8 m2MDisIn; omega)
              · refine jr_iload rfl rfl ?_
                refine jr_iload rfl rfl ?_
                refine jr_icmp_gt rfl (fun m5MDisIn => ?_) (fun m5MDisIn => ?_)
                · refine jr_ic rfl ?_
                  refine jr_zret rfl rfl rfl (Nat.zero_le _) (Nat.zero_le _) ?_
                  refine jr_if_eq rfl (fun _ => ?_) (fun z => absurd (by decide) z)
                  refine jr_ic rfl ?_
                  refine jr_iret rfl rfl (Nat.zero_le _) (Nat.zero_le _) ?_
                  first
                    | exact ⟨rfl, hRel0⟩
                    | (exfalso; omega)
                    | (exfalso; simp (disch := omega) only [Int32.lt_iff_toInt_lt, Int32.le_iff_toInt_le, ← Int32.toInt_inj, Int32.reduceToInt, nI_toInt] at c3 c5 c8 m2MDisIn m5MDisIn; done)
                    | (exfalso; simp (disch := omega) only [Int32.lt_iff_toInt_lt, Int32.le_iff_toInt_le, ← Int32.toInt_inj, Int32.reduceToInt, nI_toInt] at c3 c5 c8 m2MDisIn m5MDisIn; omega)
                · refine jr_ic rfl ?_
                  refine jr_goto rfl ?_
                  refine jr_zret rfl rfl rfl (Nat.zero_le _) (Nat.zero_le _) ?_
                  refine jr_if_eq rfl (fun z => absurd z (by decide)) (fun _ => ?_)
                  refine jr_iload rfl rfl ?_
                  refine jr_ic rfl ?_
                  refine jr_ic rfl ?_
                  refine jr_cs3 (mc' := 0) (ms' := 0) rfl jm_MD_isIn_n jm_MD_isIn_f rfl rfl rfl rfl rfl (Nat.zero_le _) (Nat.zero_le _) ?_
                  show jx_W (jm_MD_isIn, _, _, _, _, _, _) _ 0 0 0 [some _, some _, some _] [] _
                  refine jr_iload rfl rfl ?_
                  refine jr_iload rfl rfl ?_
                  refine jr_icmp_lt rfl (fun z => absurd z (by decide)) (fun _ => ?_)
                  refine jr_iload rfl rfl ?_
                  refine jr_iload rfl rfl ?_
                  refine jr_icmp_gt rfl (fun z => absurd z (by decide)) (fun _ => ?_)
                  refine jr_ic rfl ?_
                  refine jr_goto rfl ?_
                  refine jr_zret rfl rfl rfl (Nat.zero_le _) (Nat.zero_le _) ?_
                  refine jr_if_eq rfl (fun z => absurd z (by decide)) (fun _ => ?_)
                  refine jr_aload rfl rfl ?_
                  refine jr_cv0 (mc' := 0) (ms' := 0) rfl jm_MD_hasMonths_n jm_MD_hasMonths_f rfl rfl rfl rfl rfl rfl rfl (Nat.zero_le _) (Nat.zero_le _) ?_
                  show jx_W (jm_MD_hasMonths, _, _, _, _, _, _) _ 0 0 0 [some _] [] _
                  refine jr_aload rfl rfl ?_
                  refine jr_getR rfl rfl rfl rfl (Or.inl rfl) ?_
                  refine jr_aload rfl rfl ?_
                  refine jr_getI rfl rfl ?_
                  refine jr_iald (len := 2) rfl rfl hw.1 (by omega) ?_
                  refine jr_if_le rfl (fun m5MDhasMonths => ?_) (fun m5MDhasMonths => ?_)
                  · refine jr_ic rfl ?_
                    refine jr_zret rfl rfl rfl (Nat.zero_le _) (Nat.zero_le _) ?_
                    refine jr_if_eq rfl (fun _ => ?_) (fun z => absurd (by decide) z)
                    refine jr_ic rfl ?_
                    refine jr_iret rfl rfl (Nat.zero_le _) (Nat.zero_le _) ?_
                    first
                      | exact ⟨rfl, hRel0⟩
                      | (exfalso; omega)
                      | (exfalso; simp (disch := omega) only [Int32.lt_iff_toInt_lt, Int32.le_iff_toInt_le, ← Int32.toInt_inj, Int32.reduceToInt, nI_toInt] at c3 c5 c8 m2MDisIn m5MDisIn m5MDhasMonths; done)
                      | (exfalso; simp (disch := omega) only [Int32.lt_iff_toInt_lt, Int32.le_iff_toInt_le, ← Int32.toInt_inj, Int32.reduceToInt, nI_toInt] at c3 c5 c8 m2MDisIn m5MDisIn m5MDhasMonths; omega)
                  · refine jr_ic rfl ?_
                    refine jr_goto rfl ?_
                    refine jr_zret rfl rfl rfl (Nat.zero_le _) (Nat.zero_le _) ?_
                    refine jr_if_eq rfl (fun z => absurd z (by decide)) (fun _ => ?_)
                    refine jr_iload rfl rfl ?_
                    refine jr_ic rfl ?_
                    refine jr_icmp_ne rfl (fun _ => ?_) (fun z => absurd z (by decide))
                    first
                      | (exfalso; omega)
                      | (exfalso; simp (disch := omega) only [Int32.lt_iff_toInt_lt, Int32.le_iff_toInt_le, ← Int32.toInt_inj, Int32.reduceToInt, nI_toInt] at c3 c5 c8 m2MDisIn m5MDisIn m5MDhasMonths; done)
                      | (exfalso; simp (disch := omega) only [Int32.lt_iff_toInt_lt, Int32.le_iff_toInt_le, ← Int32.toInt_inj, Int32.reduceToInt, nI_toInt] at c3 c5 c8 m2MDisIn m5MDisIn m5MDhasMonths; omega)
      · rcases Classical.em (y = 2) with rfl | hy2
        · rcases nI_dec z (jz_np hm b) (by omega) with ⟨p, rfl, hp, hp2⟩ | hp
          · show jx_W (jm_JV_ahead, d + 40, 0, 0, false, 0, _) _ 0 0 0 [some (jv_r 10 0), some (jv_i (nI i)), some (jv_i 2), some (jv_i (nI p))] [] _
            refine jr_aload rfl rfl ?_
            refine jr_getM rfl rfl rfl rfl hto ?_
            refine jr_getI rfl rfl ?_
            refine jr_if_eq rfl (fun c3 => ?_) (fun c3 => ?_)
            · refine jr_ic rfl ?_
              refine jr_iret rfl rfl (Nat.zero_le _) (Nat.zero_le _) ?_
              show jx_W (jm_MD_ahead, d + 40, 0, 0, false, 1, _) _ 0 0 0 [some _, some _, some _, some _, none, none] [] _
              refine jr_iload rfl rfl ?_
              refine jr_ic rfl ?_
              refine jr_ic rfl ?_
              refine jr_cs3 (mc' := 0) (ms' := 0) rfl jm_MD_isIn_n jm_MD_isIn_f rfl rfl rfl rfl rfl (Nat.zero_le _) (Nat.zero_le _) ?_
              show jx_W (jm_MD_isIn, _, _, _, _, _, _) _ 0 0 0 [some _, some _, some _] [] _
              refine jr_iload rfl rfl ?_
              refine jr_iload rfl rfl ?_
              refine jr_icmp_lt rfl (fun m2MDisIn => ?_) (fun m2MDisIn => ?_)
              · refine jr_ic rfl ?_
                refine jr_zret rfl rfl rfl (Nat.zero_le _) (Nat.zero_le _) ?_
                refine jr_if_eq rfl (fun _ => ?_) (fun z => absurd (by decide) z)
                refine jr_ic rfl ?_
                refine jr_iret rfl rfl (Nat.zero_le _) (Nat.zero_le _) ?_
                first
                  | exact ⟨rfl, hRel0⟩
                  | (exfalso; omega)
                  | (exfalso; simp (disch := omega) only [Int32.lt_iff_toInt_lt, Int32.le_iff_toInt_le, ← Int32.toInt_inj, Int32.reduceToInt, nI_toInt] at c3 m2MDisIn; done)
                  | (exfalso; simp (disch := omega) only [Int32.lt_iff_toInt_lt, Int32.le_iff_toInt_le, ← Int32.toInt_inj, Int32.reduceToInt, nI_toInt] at c3 m2MDisIn; omega)
              · refine jr_iload rfl rfl ?_
                refine jr_iload rfl rfl ?_
                refine jr_icmp_gt rfl (fun m5MDisIn => ?_) (fun m5MDisIn => ?_)
                · refine jr_ic rfl ?_
                  refine jr_zret rfl rfl rfl (Nat.zero_le _) (Nat.zero_le _) ?_
                  refine jr_if_eq rfl (fun _ => ?_) (fun z => absurd (by decide) z)
                  refine jr_ic rfl ?_
                  refine jr_iret rfl rfl (Nat.zero_le _) (Nat.zero_le _) ?_
                  first
                    | exact ⟨rfl, hRel0⟩
                    | (exfalso; omega)
                    | (exfalso; simp (disch := omega) only [Int32.lt_iff_toInt_lt, Int32.le_iff_toInt_le, ← Int32.toInt_inj, Int32.reduceToInt, nI_toInt] at c3 m2MDisIn m5MDisIn; done)
                    | (exfalso; simp (disch := omega) only [Int32.lt_iff_toInt_lt, Int32.le_iff_toInt_le, ← Int32.toInt_inj, Int32.reduceToInt, nI_toInt] at c3 m2MDisIn m5MDisIn; omega)
                · refine jr_ic rfl ?_
                  refine jr_goto rfl ?_
                  refine jr_zret rfl rfl rfl (Nat.zero_le _) (Nat.zero_le _) ?_
                  refine jr_if_eq rfl (fun z => absurd z (by decide)) (fun _ => ?_)
                  refine jr_iload rfl rfl ?_
                  refine jr_ic rfl ?_
                  refine jr_ic rfl ?_
                  refine jr_cs3 (mc' := 0) (ms' := 0) rfl jm_MD_isIn_n jm_MD_isIn_f rfl rfl rfl rfl rfl (Nat.zero_le _) (Nat.zero_le _) ?_
                  show jx_W (jm_MD_isIn, _, _, _, _, _, _) _ 0 0 0 [some _, some _, some _] [] _
                  refine jr_iload rfl rfl ?_
                  refine jr_iload rfl rfl ?_
                  refine jr_icmp_lt rfl (fun z => absurd z (by decide)) (fun _ => ?_)
                  refine jr_iload rfl rfl ?_
                  refine jr_iload rfl rfl ?_
                  refine jr_icmp_gt rfl (fun z => absurd z (by decide)) (fun _ => ?_)
                  refine jr_ic rfl ?_
                  refine jr_goto rfl ?_
                  refine jr_zret rfl rfl rfl (Nat.zero_le _) (Nat.zero_le _) ?_
                  refine jr_if_eq rfl (fun z => absurd z (by decide)) (fun _ => ?_)
                  refine jr_aload rfl rfl ?_
                  refine jr_cv0 (mc' := 0) (ms' := 0) rfl jm_MD_hasMonths_n jm_MD_hasMonths_f rfl rfl rfl rfl rfl rfl rfl (Nat.zero_le _) (Nat.zero_le _) ?_
                  show jx_W (jm_MD_hasMonths, _, _, _, _, _, _) _ 0 0 0 [some _] [] _
                  refine jr_aload rfl rfl ?_
                  refine jr_getR rfl rfl rfl rfl (Or.inl rfl) ?_
                  refine jr_aload rfl rfl ?_
                  refine jr_getI rfl rfl ?_
                  refine jr_iald (len := 2) rfl rfl hw.1 (by omega) ?_
                  refine jr_if_le rfl (fun m5MDhasMonths => ?_) (fun m5MDhasMonths => ?_)
                  · refine jr_ic rfl ?_
                    refine jr_zret rfl rfl rfl (Nat.zero_le _) (Nat.zero_le _) ?_
                    refine jr_if_eq rfl (fun _ => ?_) (fun z => absurd (by decide) z)
                    refine jr_ic rfl ?_
                    refine jr_iret rfl rfl (Nat.zero_le _) (Nat.zero_le _) ?_
                    first
                      | exact ⟨rfl, hRel0⟩
                      | (exfalso; omega)
                      | (exfalso; simp (disch := omega) only [Int32.lt_iff_toInt_lt, Int32.le_iff_toInt_le, ← Int32.toInt_inj, Int32.reduceToInt, nI_toInt] at c3 m2MDisIn m5MDisIn m5MDhasMonths; done)
                      | (exfalso; simp (disch := omega) only [Int32.lt_iff_toInt_lt, Int32.le_iff_toInt_le, ← Int32.toInt_inj, Int32.reduceToInt, nI_toInt] at c3 m2MDisIn m5MDisIn m5MDhasMonths; omega)
                  · refine jr_ic rfl ?_
                    refine jr_goto rfl ?_
                    refine jr_zret rfl rfl rfl (Nat.zero_le _) (Nat.zero_le _) ?_
                    refine jr_if_eq rfl (fun z => absurd z (by decide)) (fun _ => ?_)
                    refine jr_iload rfl rfl ?_
                    refine jr_ic rfl ?_
                    refine jr_icmp_ne rfl (fun z => absurd (by decide) z) (fun _ => ?_)
                    refine jr_aload rfl rfl ?_
                    refine jr_iload rfl rfl ?_
                    refine jr_cv1 (mc' := 0) (ms' := 0) rfl jm_MD_isPerson_n jm_MD_isPerson_f rfl rfl rfl rfl rfl rfl rfl (Nat.zero_le _) (Nat.zero_le _) ?_
                    show jx_W (jm_MD_isPerson, _, _, _, _, _, _) _ 0 0 0 [some _, some _] [] _
                    refine jr_iload rfl rfl ?_
                    refine jr_ic rfl ?_
                    refine jr_aload rfl rfl ?_
                    refine jr_cv0 (mc' := 0) (ms' := 0) rfl jm_MD_personMany_n jm_MD_personMany_f rfl rfl rfl rfl rfl rfl rfl (Nat.zero_le _) (Nat.zero_le _) ?_
                    show jx_W (jm_MD_personMany, _, _, _, _, _, _) _ 0 0 0 [some _] [] _
                    refine jr_aload rfl rfl ?_
                    refine jr_getR rfl rfl rfl rfl (Or.inl rfl) ?_
                    refine jr_aload rfl rfl ?_
                    refine jr_getI rfl rfl ?_
                    refine jr_iald (len := 2) rfl rfl hw.1 (by omega) ?_
                    refine jr_iret rfl rfl (Nat.zero_le _) (Nat.zero_le _) ?_
                    refine jr_ic rfl ?_
                    refine jr_isub rfl ?_
                    refine jr_cs3 (mc' := 0) (ms' := 0) rfl jm_MD_isIn_n jm_MD_isIn_f rfl rfl rfl rfl rfl (Nat.zero_le _) (Nat.zero_le _) ?_
                    show jx_W (jm_MD_isIn, _, _, _, _, _, _) _ 0 0 0 [some _, some _, some _] [] _
                    refine jr_iload rfl rfl ?_
                    refine jr_iload rfl rfl ?_
                    refine jr_icmp_lt rfl (fun m2MDisIn_2 => ?_) (fun m2MDisIn_2 => ?_)
                    · refine jr_ic rfl ?_
                      refine jr_zret rfl rfl rfl (Nat.zero_le _) (Nat.zero_le _) ?_
                      refine jr_zret rfl rfl rfl (Nat.zero_le _) (Nat.zero_le _) ?_
                      refine jr_if_ne rfl (fun z => absurd (by decide) z) (fun _ => ?_)
                      refine jr_ic rfl ?_
                      refine jr_iret rfl rfl (Nat.zero_le _) (Nat.zero_le _) ?_
                      first
                        | exact ⟨rfl, hRel0⟩
                        | (exfalso; omega)
                        | (exfalso; simp (disch := omega) only [Int32.lt_iff_toInt_lt, Int32.le_iff_toInt_le, ← Int32.toInt_inj, Int32.reduceToInt, nI_toInt] at c3 m2MDisIn m5MDisIn m5MDhasMonths m2MDisIn_2; done)
                        | (exfalso; simp (disch := omega) only [Int32.lt_iff_toInt_lt, Int32.le_iff_toInt_le, ← Int32.toInt_inj, Int32.reduceToInt, nI_toInt] at c3 m2MDisIn m5MDisIn m5MDhasMonths m2MDisIn_2; omega)
                    · refine jr_iload rfl rfl ?_
                      refine jr_iload rfl rfl ?_
                      refine jr_icmp_gt rfl (fun m5MDisIn_2 => ?_) (fun m5MDisIn_2 => ?_)
                      · refine jr_ic rfl ?_
                        refine jr_zret rfl rfl rfl (Nat.zero_le _) (Nat.zero_le _) ?_
                        refine jr_zret rfl rfl rfl (Nat.zero_le _) (Nat.zero_le _) ?_
                        refine jr_if_ne rfl (fun z => absurd (by decide) z) (fun _ => ?_)
                        refine jr_ic rfl ?_
                        refine jr_iret rfl rfl (Nat.zero_le _) (Nat.zero_le _) ?_
                        first
                          | exact ⟨rfl, hRel0⟩
                          | (exfalso; omega)
                          | (exfalso; simp (disch := omega) only [Int32.lt_iff_toInt_lt, Int32.le_iff_toInt_le, ← Int32.toInt_inj, Int32.reduceToInt, nI_toInt] at c3 m2MDisIn m5MDisIn m5MDhasMonths m2MDisIn_2 m5MDisIn_2; done)
                          | (exfalso; simp (disch := omega) only [Int32.lt_iff_toInt_lt, Int32.le_iff_toInt_le, ← Int32.toInt_inj, Int32.reduceToInt, nI_toInt] at c3 m2MDisIn m5MDisIn m5MDhasMonths m2MDisIn_2 m5MDisIn_2; omega)
                      · refine jr_ic rfl ?_
                        refine jr_goto rfl ?_
                        refine jr_zret rfl rfl rfl (Nat.zero_le _) (Nat.zero_le _) ?_
                        refine jr_zret rfl rfl rfl (Nat.zero_le _) (Nat.zero_le _) ?_
                        refine jr_if_ne rfl (fun _ => ?_) (fun z => absurd z (by decide))
                        first
                          | (exfalso; omega)
                          | (exfalso; simp (disch := omega) only [Int32.lt_iff_toInt_lt, Int32.le_iff_toInt_le, ← Int32.toInt_inj, Int32.reduceToInt, nI_toInt] at c3 m2MDisIn m5MDisIn m5MDhasMonths m2MDisIn_2 m5MDisIn_2; done)
                          | (exfalso; simp (disch := omega) only [Int32.lt_iff_toInt_lt, Int32.le_iff_toInt_le, ← Int32.toInt_inj, Int32.reduceToInt, nI_toInt] at c3 m2MDisIn m5MDisIn m5MDhasMonths m2MDisIn_2 m5MDisIn_2; omega)
            · refine jr_iload rfl rfl ?_
              refine jr_if_lt rfl (fun c5 => ?_) (fun c5 => ?_)
              · refine jr_ic rfl ?_
                refine jr_iret rfl rfl (Nat.zero_le _) (Nat.zero_le _) ?_
                show jx_W (jm_MD_ahead, d + 40, 0, 0, false, 1, _) _ 0 0 0 [some _, some _, some _, some _, none, none] [] _
                refine jr_iload rfl rfl ?_
                refine jr_ic rfl ?_
                refine jr_ic rfl ?_
                refine jr_cs3 (mc' := 0) (ms' := 0) rfl jm_MD_isIn_n jm_MD_isIn_f rfl rfl rfl rfl rfl (Nat.zero_le _) (Nat.zero_le _) ?_
                show jx_W (jm_MD_isIn, _, _, _, _, _, _) _ 0 0 0 [some _, some _, some _] [] _
                refine jr_iload rfl rfl ?_
                refine jr_iload rfl rfl ?_
                refine jr_icmp_lt rfl (fun m2MDisIn => ?_) (fun m2MDisIn => ?_)
                · refine jr_ic rfl ?_
                  refine jr_zret rfl rfl rfl (Nat.zero_le _) (Nat.zero_le _) ?_
                  refine jr_if_eq rfl (fun _ => ?_) (fun z => absurd (by decide) z)
                  refine jr_ic rfl ?_
                  refine jr_iret rfl rfl (Nat.zero_le _) (Nat.zero_le _) ?_
                  first
                    | exact ⟨rfl, hRel0⟩
                    | (exfalso; omega)
                    | (exfalso; simp (disch := omega) only [Int32.lt_iff_toInt_lt, Int32.le_iff_toInt_le, ← Int32.toInt_inj, Int32.reduceToInt, nI_toInt] at c3 c5 m2MDisIn; done)
                    | (exfalso; simp (disch := omega) only [Int32.lt_iff_toInt_lt, Int32.le_iff_toInt_le, ← Int32.toInt_inj, Int32.reduceToInt, nI_toInt] at c3 c5 m2MDisIn; omega)
                · refine jr_iload rfl rfl ?_
                  refine jr_iload rfl rfl ?_
                  refine jr_icmp_gt rfl (fun m5MDisIn => ?_) (fun m5MDisIn => ?_)
                  · refine jr_ic rfl ?_
                    refine jr_zret rfl rfl rfl (Nat.zero_le _) (Nat.zero_le _) ?_
                    refine jr_if_eq rfl (fun _ => ?_) (fun z => absurd (by decide) z)
                    refine jr_ic rfl ?_
                    refine jr_iret rfl rfl (Nat.zero_le _) (Nat.zero_le _) ?_
                    first
                      | exact ⟨rfl, hRel0⟩
                      | (exfalso; omega)
                      | (exfalso; simp (disch := omega) only [Int32.lt_iff_toInt_lt, Int32.le_iff_toInt_le, ← Int32.toInt_inj, Int32.reduceToInt, nI_toInt] at c3 c5 m2MDisIn m5MDisIn; done)
                      | (exfalso; simp (disch := omega) only [Int32.lt_iff_toInt_lt, Int32.le_iff_toInt_le, ← Int32.toInt_inj, Int32.reduceToInt, nI_toInt] at c3 c5 m2MDisIn m5MDisIn; omega)
                  · refine jr_ic rfl ?_
                    refine jr_goto rfl ?_
                    refine jr_zret rfl rfl rfl (Nat.zero_le _) (Nat.zero_le _) ?_
                    refine jr_if_eq rfl (fun z => absurd z (by decide)) (fun _ => ?_)
                    refine jr_iload rfl rfl ?_
                    refine jr_ic rfl ?_
                    refine jr_ic rfl ?_
                    refine jr_cs3 (mc' := 0) (ms' := 0) rfl jm_MD_isIn_n jm_MD_isIn_f rfl rfl rfl rfl rfl (Nat.zero_le _) (Nat.zero_le _) ?_
                    show jx_W (jm_MD_isIn, _, _, _, _, _, _) _ 0 0 0 [some _, some _, some _] [] _
                    refine jr_iload rfl rfl ?_
                    refine jr_iload rfl rfl ?_
                    refine jr_icmp_lt rfl (fun z => absurd z (by decide)) (fun _ => ?_)
                    refine jr_iload rfl rfl ?_
                    refine jr_iload rfl rfl ?_
                    refine jr_icmp_gt rfl (fun z => absurd z (by decide)) (fun _ => ?_)
                    refine jr_ic rfl ?_
                    refine jr_goto rfl ?_
                    refine jr_zret rfl rfl rfl (Nat.zero_le _) (Nat.zero_le _) ?_
                    refine jr_if_eq rfl (fun z => absurd z (by decide)) (fun _ => ?_)
                    refine jr_aload rfl rfl ?_
                    refine jr_cv0 (mc' := 0) (ms' := 0) rfl jm_MD_hasMonths_n jm_MD_hasMonths_f rfl rfl rfl rfl rfl rfl rfl (Nat.zero_le _) (Nat.zero_le _) ?_
                    show jx_W (jm_MD_hasMonths, _, _, _, _, _, _) _ 0 0 0 [some _] [] _
                    refine jr_aload rfl rfl ?_
                    refine jr_getR rfl rfl rfl rfl (Or.inl rfl) ?_
                    refine jr_aload rfl rfl ?_
                    refine jr_getI rfl rfl ?_
                    refine jr_iald (len := 2) rfl rfl hw.1 (by omega) ?_
                    refine jr_if_le rfl (fun m5MDhasMonths => ?_) (fun m5MDhasMonths => ?_)
                    · refine jr_ic rfl ?_
                      refine jr_zret rfl rfl rfl (Nat.zero_le _) (Nat.zero_le _) ?_
                      refine jr_if_eq rfl (fun _ => ?_) (fun z => absurd (by decide) z)
                      refine jr_ic rfl ?_
                      refine jr_iret rfl rfl (Nat.zero_le _) (Nat.zero_le _) ?_
                      first
                        | exact ⟨rfl, hRel0⟩
                        | (exfalso; omega)
                        | (exfalso; simp (disch := omega) only [Int32.lt_iff_toInt_lt, Int32.le_iff_toInt_le, ← Int32.toInt_inj, Int32.reduceToInt, nI_toInt] at c3 c5 m2MDisIn m5MDisIn m5MDhasMonths; done)
                        | (exfalso; simp (disch := omega) only [Int32.lt_iff_toInt_lt, Int32.le_iff_toInt_le, ← Int32.toInt_inj, Int32.reduceToInt, nI_toInt] at c3 c5 m2MDisIn m5MDisIn m5MDhasMonths; omega)
                    · refine jr_ic rfl ?_
                      refine jr_goto rfl ?_
                      refine jr_zret rfl rfl rfl (Nat.zero_le _) (Nat.zero_le _) ?_
                      refine jr_if_eq rfl (fun z => absurd z (by decide)) (fun _ => ?_)
                      refine jr_iload rfl rfl ?_
                      refine jr_ic rfl ?_
                      refine jr_icmp_ne rfl (fun z => absurd (by decide) z) (fun _ => ?_)
                      refine jr_aload rfl rfl ?_
                      refine jr_iload rfl rfl ?_
                      refine jr_cv1 (mc' := 0) (ms' := 0) rfl jm_MD_isPerson_n jm_MD_isPerson_f rfl rfl rfl rfl rfl rfl rfl (Nat.zero_le _) (Nat.zero_le _) ?_
                      show jx_W (jm_MD_isPerson, _, _, _, _, _, _) _ 0 0 0 [some _, some _] [] _
                      refine jr_iload rfl rfl ?_
                      refine jr_ic rfl ?_
                      refine jr_aload rfl rfl ?_
                      refine jr_cv0 (mc' := 0) (ms' := 0) rfl jm_MD_personMany_n jm_MD_personMany_f rfl rfl rfl rfl rfl rfl rfl (Nat.zero_le _) (Nat.zero_le _) ?_
                      show jx_W (jm_MD_personMany, _, _, _, _, _, _) _ 0 0 0 [some _] [] _
                      refine jr_aload rfl rfl ?_
                      refine jr_getR rfl rfl rfl rfl (Or.inl rfl) ?_
                      refine jr_aload rfl rfl ?_
                      refine jr_getI rfl rfl ?_
                      refine jr_iald (len := 2) rfl rfl hw.1 (by omega) ?_
                      refine jr_iret rfl rfl (Nat.zero_le _) (Nat.zero_le _) ?_
                      refine jr_ic rfl ?_
                      refine jr_isub rfl ?_
                      refine jr_cs3 (mc' := 0) (ms' := 0) rfl jm_MD_isIn_n jm_MD_isIn_f rfl rfl rfl rfl rfl (Nat.zero_le _) (Nat.zero_le _) ?_
                      show jx_W (jm_MD_isIn, _, _, _, _, _, _) _ 0 0 0 [some _, some _, some _] [] _
                      refine jr_iload rfl rfl ?_
                      refine jr_iload rfl rfl ?_
                      refine jr_icmp_lt rfl (fun m2MDisIn_2 => ?_) (fun m2MDisIn_2 => ?_)
                      · refine jr_ic rfl ?_
                        refine jr_zret rfl rfl rfl (Nat.zero_le _) (Nat.zero_le _) ?_
                        refine jr_zret rfl rfl rfl (Nat.zero_le _) (Nat.zero_le _) ?_
                        refine jr_if_ne rfl (fun z => absurd (by decide) z) (fun _ => ?_)
                        refine jr_ic rfl ?_
                        refine jr_iret rfl rfl (Nat.zero_le _) (Nat.zero_le _) ?_
                        first
                          | exact ⟨rfl, hRel0⟩
                          | (exfalso; omega)
                          | (exfalso; simp (disch := omega) only [Int32.lt_iff_toInt_lt, Int32.le_iff_toInt_le, ← Int32.toInt_inj, Int32.reduceToInt, nI_toInt] at c3 c5 m2MDisIn m5MDisIn m5MDhasMonths m2MDisIn_2; done)
                          | (exfalso; simp (disch := omega) only [Int32.lt_iff_toInt_lt, Int32.le_iff_toInt_le, ← Int32.toInt_inj, Int32.reduceToInt, nI_toInt] at c3 c5 m2MDisIn m5MDisIn m5MDhasMonths m2MDisIn_2; omega)
                      · refine jr_iload rfl rfl ?_
                        refine jr_iload rfl rfl ?_
                        refine jr_icmp_gt rfl (fun m5MDisIn_2 => ?_) (fun m5MDisIn_2 => ?_)
                        · refine jr_ic rfl ?_
                          refine jr_zret rfl rfl rfl (Nat.zero_le _) (Nat.zero_le _) ?_
                          refine jr_zret rfl rfl rfl (Nat.zero_le _) (Nat.zero_le _) ?_
                          refine jr_if_ne rfl (fun z => absurd (by decide) z) (fun _ => ?_)
                          refine jr_ic rfl ?_
                          refine jr_iret rfl rfl (Nat.zero_le _) (Nat.zero_le _) ?_
                          first
                            | exact ⟨rfl, hRel0⟩
                            | (exfalso; omega)
                            | (exfalso; simp (disch := omega) only [Int32.lt_iff_toInt_lt, Int32.le_iff_toInt_le, ← Int32.toInt_inj, Int32.reduceToInt, nI_toInt] at c3 c5 m2MDisIn m5MDisIn m5MDhasMonths m2MDisIn_2 m5MDisIn_2; done)
                            | (exfalso; simp (disch := omega) only [Int32.lt_iff_toInt_lt, Int32.le_iff_toInt_le, ← Int32.toInt_inj, Int32.reduceToInt, nI_toInt] at c3 c5 m2MDisIn m5MDisIn m5MDhasMonths m2MDisIn_2 m5MDisIn_2; omega)
                        · refine jr_ic rfl ?_
                          refine jr_goto rfl ?_
                          refine jr_zret rfl rfl rfl (Nat.zero_le _) (Nat.zero_le _) ?_
                          refine jr_zret rfl rfl rfl (Nat.zero_le _) (Nat.zero_le _) ?_
                          refine jr_if_ne rfl (fun _ => ?_) (fun z => absurd z (by decide))
                          first
                            | (exfalso; omega)
                            | (exfalso; simp (disch := omega) only [Int32.lt_iff_toInt_lt, Int32.le_iff_toInt_le, ← Int32.toInt_inj, Int32.reduceToInt, nI_toInt] at c3 c5 m2MDisIn m5MDisIn m5MDhasMonths m2MDisIn_2 m5MDisIn_2; done)
                            | (exfalso; simp (disch := omega) only [Int32.lt_iff_toInt_lt, Int32.le_iff_toInt_le, ← Int32.toInt_inj, Int32.reduceToInt, nI_toInt] at c3 c5 m2MDisIn m5MDisIn m5MDhasMonths m2MDisIn_2 m5MDisIn_2; omega)
              · refine jr_iload rfl rfl ?_
                refine jr_ic rfl ?_
                refine jr_icmp_le rfl (fun c8 => ?_) (fun c8 => ?_)
                · refine jr_iload rfl rfl ?_
                  refine jr_tsw rfl ?_
                  refine ⟨fun z => absurd z (by decide), fun _ => ?_⟩
                  refine ⟨fun z => absurd z (by decide), fun _ => ?_⟩
                  refine ⟨fun _ => ?_, fun z => absurd (by decide) z⟩
                  refine jr_aload rfl rfl ?_
                  refine jr_getM rfl rfl rfl rfl hto ?_
                  refine jr_iload rfl rfl ?_
                  refine jr_cv1 (mc' := 0) (ms' := 0) rfl jm_Rep_hasPerson_n jm_Rep_hasPerson_f rfl rfl rfl rfl rfl rfl rfl (Nat.zero_le _) (Nat.zero_le _) ?_
                  show jx_W (jm_Rep_hasPerson, _, _, _, _, _, _) _ 0 0 0 [some _, some _] [] _
                  refine jr_iload rfl rfl ?_
                  refine jr_if_lt rfl (fun c1RephasPerson => ?_) (fun c1RephasPerson => ?_)
                  · refine jr_ic rfl ?_
                    refine jr_zret rfl rfl rfl (Nat.zero_le _) (Nat.zero_le _) ?_
                    refine jr_if_eq rfl (fun _ => ?_) (fun z => absurd (by decide) z)
                    refine jr_ic rfl ?_
                    refine jr_iret rfl rfl (Nat.zero_le _) (Nat.zero_le _) ?_
                    show jx_W (jm_MD_ahead, d + 40, 0, 0, false, 1, _) _ 0 0 0 [some _, some _, some _, some _, none, none] [] _
                    refine jr_iload rfl rfl ?_
                    refine jr_ic rfl ?_
                    refine jr_ic rfl ?_
                    refine jr_cs3 (mc' := 0) (ms' := 0) rfl jm_MD_isIn_n jm_MD_isIn_f rfl rfl rfl rfl rfl (Nat.zero_le _) (Nat.zero_le _) ?_
                    show jx_W (jm_MD_isIn, _, _, _, _, _, _) _ 0 0 0 [some _, some _, some _] [] _
                    refine jr_iload rfl rfl ?_
                    refine jr_iload rfl rfl ?_
                    refine jr_icmp_lt rfl (fun m2MDisIn => ?_) (fun m2MDisIn => ?_)
                    · refine jr_ic rfl ?_
                      refine jr_zret rfl rfl rfl (Nat.zero_le _) (Nat.zero_le _) ?_
                      refine jr_if_eq rfl (fun _ => ?_) (fun z => absurd (by decide) z)
                      refine jr_ic rfl ?_
                      refine jr_iret rfl rfl (Nat.zero_le _) (Nat.zero_le _) ?_
                      first
                        | exact ⟨rfl, hRel0⟩
                        | (exfalso; omega)
                        | (exfalso; simp (disch := omega) only [Int32.lt_iff_toInt_lt, Int32.le_iff_toInt_le, ← Int32.toInt_inj, Int32.reduceToInt, nI_toInt] at c3 c5 c8 c1RephasPerson m2MDisIn; done)
                        | (exfalso; simp (disch := omega) only [Int32.lt_iff_toInt_lt, Int32.le_iff_toInt_le, ← Int32.toInt_inj, Int32.reduceToInt, nI_toInt] at c3 c5 c8 c1RephasPerson m2MDisIn; omega)
                    · refine jr_iload rfl rfl ?_
                      refine jr_iload rfl rfl ?_
                      refine jr_icmp_gt rfl (fun m5MDisIn => ?_) (fun m5MDisIn => ?_)
                      · refine jr_ic rfl ?_
                        refine jr_zret rfl rfl rfl (Nat.zero_le _) (Nat.zero_le _) ?_
                        refine jr_if_eq rfl (fun _ => ?_) (fun z => absurd (by decide) z)
                        refine jr_ic rfl ?_
                        refine jr_iret rfl rfl (Nat.zero_le _) (Nat.zero_le _) ?_
                        first
                          | exact ⟨rfl, hRel0⟩
                          | (exfalso; omega)
                          | (exfalso; simp (disch := omega) only [Int32.lt_iff_toInt_lt, Int32.le_iff_toInt_le, ← Int32.toInt_inj, Int32.reduceToInt, nI_toInt] at c3 c5 c8 c1RephasPerson m2MDisIn m5MDisIn; done)
                          | (exfalso; simp (disch := omega) only [Int32.lt_iff_toInt_lt, Int32.le_iff_toInt_le, ← Int32.toInt_inj, Int32.reduceToInt, nI_toInt] at c3 c5 c8 c1RephasPerson m2MDisIn m5MDisIn; omega)
                      · refine jr_ic rfl ?_
                        refine jr_goto rfl ?_
                        refine jr_zret rfl rfl rfl (Nat.zero_le _) (Nat.zero_le _) ?_
                        refine jr_if_eq rfl (fun z => absurd z (by decide)) (fun _ => ?_)
                        refine jr_iload rfl rfl ?_
                        refine jr_ic rfl ?_
                        refine jr_ic rfl ?_
                        refine jr_cs3 (mc' := 0) (ms' := 0) rfl jm_MD_isIn_n jm_MD_isIn_f rfl rfl rfl rfl rfl (Nat.zero_le _) (Nat.zero_le _) ?_
                        show jx_W (jm_MD_isIn, _, _, _, _, _, _) _ 0 0 0 [some _, some _, some _] [] _
                        refine jr_iload rfl rfl ?_
                        refine jr_iload rfl rfl ?_
                        refine jr_icmp_lt rfl (fun z => absurd z (by decide)) (fun _ => ?_)
                        refine jr_iload rfl rfl ?_
                        refine jr_iload rfl rfl ?_
                        refine jr_icmp_gt rfl (fun z => absurd z (by decide)) (fun _ => ?_)
                        refine jr_ic rfl ?_
                        refine jr_goto rfl ?_
                        refine jr_zret rfl rfl rfl (Nat.zero_le _) (Nat.zero_le _) ?_
                        refine jr_if_eq rfl (fun z => absurd z (by decide)) (fun _ => ?_)
                        refine jr_aload rfl rfl ?_
                        refine jr_cv0 (mc' := 0) (ms' := 0) rfl jm_MD_hasMonths_n jm_MD_hasMonths_f rfl rfl rfl rfl rfl rfl rfl (Nat.zero_le _) (Nat.zero_le _) ?_
                        show jx_W (jm_MD_hasMonths, _, _, _, _, _, _) _ 0 0 0 [some _] [] _
                        refine jr_aload rfl rfl ?_
                        refine jr_getR rfl rfl rfl rfl (Or.inl rfl) ?_
                        refine jr_aload rfl rfl ?_
                        refine jr_getI rfl rfl ?_
                        refine jr_iald (len := 2) rfl rfl hw.1 (by omega) ?_
                        refine jr_if_le rfl (fun m5MDhasMonths => ?_) (fun m5MDhasMonths => ?_)
                        · refine jr_ic rfl ?_
                          refine jr_zret rfl rfl rfl (Nat.zero_le _) (Nat.zero_le _) ?_
                          refine jr_if_eq rfl (fun _ => ?_) (fun z => absurd (by decide) z)
                          refine jr_ic rfl ?_
                          refine jr_iret rfl rfl (Nat.zero_le _) (Nat.zero_le _) ?_
                          first
                            | exact ⟨rfl, hRel0⟩
                            | (exfalso; omega)
                            | (exfalso; simp (disch := omega) only [Int32.lt_iff_toInt_lt, Int32.le_iff_toInt_le, ← Int32.toInt_inj, Int32.reduceToInt, nI_toInt] at c3 c5 c8 c1RephasPerson m2MDisIn m5MDisIn m5MDhasMonths; done)
                            | (exfalso; simp (disch := omega) only [Int32.lt_iff_toInt_lt, Int32.le_iff_toInt_le, ← Int32.toInt_inj, Int32.reduceToInt, nI_toInt] at c3 c5 c8 c1RephasPerson m2MDisIn m5MDisIn m5MDhasMonths; omega)
                        · refine jr_ic rfl ?_
                          refine jr_goto rfl ?_
                          refine jr_zret rfl rfl rfl (Nat.zero_le _) (Nat.zero_le _) ?_
                          refine jr_if_eq rfl (fun z => absurd z (by decide)) (fun _ => ?_)
                          refine jr_iload rfl rfl ?_
                          refine jr_ic rfl ?_
                          refine jr_icmp_ne rfl (fun z => absurd (by decide) z) (fun _ => ?_)
                          refine jr_aload rfl rfl ?_
                          refine jr_iload rfl rfl ?_
                          refine jr_cv1 (mc' := 0) (ms' := 0) rfl jm_MD_isPerson_n jm_MD_isPerson_f rfl rfl rfl rfl rfl rfl rfl (Nat.zero_le _) (Nat.zero_le _) ?_
                          show jx_W (jm_MD_isPerson, _, _, _, _, _, _) _ 0 0 0 [some _, some _] [] _
                          refine jr_iload rfl rfl ?_
                          refine jr_ic rfl ?_
                          refine jr_aload rfl rfl ?_
                          refine jr_cv0 (mc' := 0) (ms' := 0) rfl jm_MD_personMany_n jm_MD_personMany_f rfl rfl rfl rfl rfl rfl rfl (Nat.zero_le _) (Nat.zero_le _) ?_
                          show jx_W (jm_MD_personMany, _, _, _, _, _, _) _ 0 0 0 [some _] [] _
                          refine jr_aload rfl rfl ?_
                          refine jr_getR rfl rfl rfl rfl (Or.inl rfl) ?_
                          refine jr_aload rfl rfl ?_
                          refine jr_getI rfl rfl ?_
                          refine jr_iald (len := 2) rfl rfl hw.1 (by omega) ?_
                          refine jr_iret rfl rfl (Nat.zero_le _) (Nat.zero_le _) ?_
                          refine jr_ic rfl ?_
                          refine jr_isub rfl ?_
                          refine jr_cs3 (mc' := 0) (ms' := 0) rfl jm_MD_isIn_n jm_MD_isIn_f rfl rfl rfl rfl rfl (Nat.zero_le _) (Nat.zero_le _) ?_
                          show jx_W (jm_MD_isIn, _, _, _, _, _, _) _ 0 0 0 [some _, some _, some _] [] _
                          refine jr_iload rfl rfl ?_
                          refine jr_iload rfl rfl ?_
                          refine jr_icmp_lt rfl (fun m2MDisIn_2 => ?_) (fun m2MDisIn_2 => ?_)
                          · refine jr_ic rfl ?_
                            refine jr_zret rfl rfl rfl (Nat.zero_le _) (Nat.zero_le _) ?_
                            refine jr_zret rfl rfl rfl (Nat.zero_le _) (Nat.zero_le _) ?_
                            refine jr_if_ne rfl (fun z => absurd (by decide) z) (fun _ => ?_)
                            refine jr_ic rfl ?_
                            refine jr_iret rfl rfl (Nat.zero_le _) (Nat.zero_le _) ?_
                            first
                              | exact ⟨rfl, hRel0⟩
                              | (exfalso; omega)
                              | (exfalso; simp (disch := omega) only [Int32.lt_iff_toInt_lt, Int32.le_iff_toInt_le, ← Int32.toInt_inj, Int32.reduceToInt, nI_toInt] at c3 c5 c8 c1RephasPerson m2MDisIn m5MDisIn m5MDhasMonths m2MDisIn_2; done)
                              | (exfalso; simp (disch := omega) only [Int32.lt_iff_toInt_lt, Int32.le_iff_toInt_le, ← Int32.toInt_inj, Int32.reduceToInt, nI_toInt] at c3 c5 c8 c1RephasPerson m2MDisIn m5MDisIn m5MDhasMonths m2MDisIn_2; omega)
                          · refine jr_iload rfl rfl ?_
                            refine jr_iload rfl rfl ?_
                            refine jr_icmp_gt rfl (fun m5MDisIn_2 => ?_) (fun m5MDisIn_2 => ?_)
                            · refine jr_ic rfl ?_
                              refine jr_zret rfl rfl rfl (Nat.zero_le _) (Nat.zero_le _) ?_
                              refine jr_zret rfl rfl rfl (Nat.zero_le _) (Nat.zero_le _) ?_
                              refine jr_if_ne rfl (fun z => absurd (by decide) z) (fun _ => ?_)
                              refine jr_ic rfl ?_
                              refine jr_iret rfl rfl (Nat.zero_le _) (Nat.zero_le _) ?_
                              first
                                | exact ⟨rfl, hRel0⟩
                                | (exfalso; omega)
                                | (exfalso; simp (disch := omega) only [Int32.lt_iff_toInt_lt, Int32.le_iff_toInt_le, ← Int32.toInt_inj, Int32.reduceToInt, nI_toInt] at c3 c5 c8 c1RephasPerson m2MDisIn m5MDisIn m5MDhasMonths m2MDisIn_2 m5MDisIn_2; done)
                                | (exfalso; simp (disch := omega) only [Int32.lt_iff_toInt_lt, Int32.le_iff_toInt_le, ← Int32.toInt_inj, Int32.reduceToInt, nI_toInt] at c3 c5 c8 c1RephasPerson m2MDisIn m5MDisIn m5MDhasMonths m2MDisIn_2 m5MDisIn_2; omega)
                            · refine jr_ic rfl ?_
                              refine jr_goto rfl ?_
                              refine jr_zret rfl rfl rfl (Nat.zero_le _) (Nat.zero_le _) ?_
                              refine jr_zret rfl rfl rfl (Nat.zero_le _) (Nat.zero_le _) ?_
                              refine jr_if_ne rfl (fun _ => ?_) (fun z => absurd z (by decide))
                              first
                                | (exfalso; omega)
                                | (exfalso; simp (disch := omega) only [Int32.lt_iff_toInt_lt, Int32.le_iff_toInt_le, ← Int32.toInt_inj, Int32.reduceToInt, nI_toInt] at c3 c5 c8 c1RephasPerson m2MDisIn m5MDisIn m5MDhasMonths m2MDisIn_2 m5MDisIn_2; done)
                                | (exfalso; simp (disch := omega) only [Int32.lt_iff_toInt_lt, Int32.le_iff_toInt_le, ← Int32.toInt_inj, Int32.reduceToInt, nI_toInt] at c3 c5 c8 c1RephasPerson m2MDisIn m5MDisIn m5MDhasMonths m2MDisIn_2 m5MDisIn_2; omega)
                  · refine jr_iload rfl rfl ?_
                    refine jr_aload rfl rfl ?_
                    refine jr_getI rfl rfl ?_
                    refine jr_icmp_ge rfl (fun c5RephasPerson => ?_) (fun c5RephasPerson => ?_)
                    · refine jr_ic rfl ?_
                      refine jr_zret rfl rfl rfl (Nat.zero_le _) (Nat.zero_le _) ?_
                      refine jr_if_eq rfl (fun _ => ?_) (fun z => absurd (by decide) z)
                      refine jr_ic rfl ?_
                      refine jr_iret rfl rfl (Nat.zero_le _) (Nat.zero_le _) ?_
                      show jx_W (jm_MD_ahead, d + 40, 0, 0, false, 1, _) _ 0 0 0 [some _, some _, some _, some _, none, none] [] _
                      refine jr_iload rfl rfl ?_
                      refine jr_ic rfl ?_
                      refine jr_ic rfl ?_
                      refine jr_cs3 (mc' := 0) (ms' := 0) rfl jm_MD_isIn_n jm_MD_isIn_f rfl rfl rfl rfl rfl (Nat.zero_le _) (Nat.zero_le _) ?_
                      show jx_W (jm_MD_isIn, _, _, _, _, _, _) _ 0 0 0 [some _, some _, some _] [] _
                      refine jr_iload rfl rfl ?_
                      refine jr_iload rfl rfl ?_
                      refine jr_icmp_lt rfl (fun m2MDisIn => ?_) (fun m2MDisIn => ?_)
                      · refine jr_ic rfl ?_
                        refine jr_zret rfl rfl rfl (Nat.zero_le _) (Nat.zero_le _) ?_
                        refine jr_if_eq rfl (fun _ => ?_) (fun z => absurd (by decide) z)
                        refine jr_ic rfl ?_
                        refine jr_iret rfl rfl (Nat.zero_le _) (Nat.zero_le _) ?_
                        first
                          | exact ⟨rfl, hRel0⟩
                          | (exfalso; omega)
                          | (exfalso; simp (disch := omega) only [Int32.lt_iff_toInt_lt, Int32.le_iff_toInt_le, ← Int32.toInt_inj, Int32.reduceToInt, nI_toInt] at c3 c5 c8 c1RephasPerson c5RephasPerson m2MDisIn; done)
                          | (exfalso; simp (disch := omega) only [Int32.lt_iff_toInt_lt, Int32.le_iff_toInt_le, ← Int32.toInt_inj, Int32.reduceToInt, nI_toInt] at c3 c5 c8 c1RephasPerson c5RephasPerson m2MDisIn; omega)
                      · refine jr_iload rfl rfl ?_
                        refine jr_iload rfl rfl ?_
                        refine jr_icmp_gt rfl (fun m5MDisIn => ?_) (fun m5MDisIn => ?_)
                        · refine jr_ic rfl ?_
                          refine jr_zret rfl rfl rfl (Nat.zero_le _) (Nat.zero_le _) ?_
                          refine jr_if_eq rfl (fun _ => ?_) (fun z => absurd (by decide) z)
                          refine jr_ic rfl ?_
                          refine jr_iret rfl rfl (Nat.zero_le _) (Nat.zero_le _) ?_
                          first
                            | exact ⟨rfl, hRel0⟩
                            | (exfalso; omega)
                            | (exfalso; simp (disch := omega) only [Int32.lt_iff_toInt_lt, Int32.le_iff_toInt_le, ← Int32.toInt_inj, Int32.reduceToInt, nI_toInt] at c3 c5 c8 c1RephasPerson c5RephasPerson m2MDisIn m5MDisIn; done)
                            | (exfalso; simp (disch := omega) only [Int32.lt_iff_toInt_lt, Int32.le_iff_toInt_le, ← Int32.toInt_inj, Int32.reduceToInt, nI_toInt] at c3 c5 c8 c1RephasPerson c5RephasPerson m2MDisIn m5MDisIn; omega)
                        · refine jr_ic rfl ?_
                          refine jr_goto rfl ?_
                          refine jr_zret rfl rfl rfl (Nat.zero_le _) (Nat.zero_le _) ?_
                          refine jr_if_eq rfl (fun z => absurd z (by decide)) (fun _ => ?_)
                          refine jr_iload rfl rfl ?_
                          refine jr_ic rfl ?_
                          refine jr_ic rfl ?_
                          refine jr_cs3 (mc' := 0) (ms' := 0) rfl jm_MD_isIn_n jm_MD_isIn_f rfl rfl rfl rfl rfl (Nat.zero_le _) (Nat.zero_le _) ?_
                          show jx_W (jm_MD_isIn, _, _, _, _, _, _) _ 0 0 0 [some _, some _, some _] [] _
                          refine jr_iload rfl rfl ?_
                          refine jr_iload rfl rfl ?_
                          refine jr_icmp_lt rfl (fun z => absurd z (by decide)) (fun _ => ?_)
                          refine jr_iload rfl rfl ?_
                          refine jr_iload rfl rfl ?_
                          refine jr_icmp_gt rfl (fun z => absurd z (by decide)) (fun _ => ?_)
                          refine jr_ic rfl ?_
                          refine jr_goto rfl ?_
                          refine jr_zret rfl rfl rfl (Nat.zero_le _) (Nat.zero_le _) ?_
                          refine jr_if_eq rfl (fun z => absurd z (by decide)) (fun _ => ?_)
                          refine jr_aload rfl rfl ?_
                          refine jr_cv0 (mc' := 0) (ms' := 0) rfl jm_MD_hasMonths_n jm_MD_hasMonths_f rfl rfl rfl rfl rfl rfl rfl (Nat.zero_le _) (Nat.zero_le _) ?_
                          show jx_W (jm_MD_hasMonths, _, _, _, _, _, _) _ 0 0 0 [some _] [] _
                          refine jr_aload rfl rfl ?_
                          refine jr_getR rfl rfl rfl rfl (Or.inl rfl) ?_
                          refine jr_aload rfl rfl ?_
                          refine jr_getI rfl rfl ?_
                          refine jr_iald (len := 2) rfl rfl hw.1 (by omega) ?_
                          refine jr_if_le rfl (fun m5MDhasMonths => ?_) (fun m5MDhasMonths => ?_)
                          · refine jr_ic rfl ?_
                            refine jr_zret rfl rfl rfl (Nat.zero_le _) (Nat.zero_le _) ?_
                            refine jr_if_eq rfl (fun _ => ?_) (fun z => absurd (by decide) z)
                            refine jr_ic rfl ?_
                            refine jr_iret rfl rfl (Nat.zero_le _) (Nat.zero_le _) ?_
                            first
                              | exact ⟨rfl, hRel0⟩
                              | (exfalso; omega)
                              | (exfalso; simp (disch := omega) only [Int32.lt_iff_toInt_lt, Int32.le_iff_toInt_le, ← Int32.toInt_inj, Int32.reduceToInt, nI_toInt] at c3 c5 c8 c1RephasPerson c5RephasPerson m2MDisIn m5MDisIn m5MDhasMonths; done)
                              | (exfalso; simp (disch := omega) only [Int32.lt_iff_toInt_lt, Int32.le_iff_toInt_le, ← Int32.toInt_inj, Int32.reduceToInt, nI_toInt] at c3 c5 c8 c1RephasPerson c5RephasPerson m2MDisIn m5MDisIn m5MDhasMonths; omega)
                          · refine jr_ic rfl ?_
                            refine jr_goto rfl ?_
                            refine jr_zret rfl rfl rfl (Nat.zero_le _) (Nat.zero_le _) ?_
                            refine jr_if_eq rfl (fun z => absurd z (by decide)) (fun _ => ?_)
                            refine jr_iload rfl rfl ?_
                            refine jr_ic rfl ?_
                            refine jr_icmp_ne rfl (fun z => absurd (by decide) z) (fun _ => ?_)
                            refine jr_aload rfl rfl ?_
                            refine jr_iload rfl rfl ?_
                            refine jr_cv1 (mc' := 0) (ms' := 0) rfl jm_MD_isPerson_n jm_MD_isPerson_f rfl rfl rfl rfl rfl rfl rfl (Nat.zero_le _) (Nat.zero_le _) ?_
                            show jx_W (jm_MD_isPerson, _, _, _, _, _, _) _ 0 0 0 [some _, some _] [] _
                            refine jr_iload rfl rfl ?_
                            refine jr_ic rfl ?_
                            refine jr_aload rfl rfl ?_
                            refine jr_cv0 (mc' := 0) (ms' := 0) rfl jm_MD_personMany_n jm_MD_personMany_f rfl rfl rfl rfl rfl rfl rfl (Nat.zero_le _) (Nat.zero_le _) ?_
                            show jx_W (jm_MD_personMany, _, _, _, _, _, _) _ 0 0 0 [some _] [] _
                            refine jr_aload rfl rfl ?_
                            refine jr_getR rfl rfl rfl rfl (Or.inl rfl) ?_
                            refine jr_aload rfl rfl ?_
                            refine jr_getI rfl rfl ?_
                            refine jr_iald (len := 2) rfl rfl hw.1 (by omega) ?_
                            refine jr_iret rfl rfl (Nat.zero_le _) (Nat.zero_le _) ?_
                            refine jr_ic rfl ?_
                            refine jr_isub rfl ?_
                            refine jr_cs3 (mc' := 0) (ms' := 0) rfl jm_MD_isIn_n jm_MD_isIn_f rfl rfl rfl rfl rfl (Nat.zero_le _) (Nat.zero_le _) ?_
                            show jx_W (jm_MD_isIn, _, _, _, _, _, _) _ 0 0 0 [some _, some _, some _] [] _
                            refine jr_iload rfl rfl ?_
                            refine jr_iload rfl rfl ?_
                            refine jr_icmp_lt rfl (fun m2MDisIn_2 => ?_) (fun m2MDisIn_2 => ?_)
                            · refine jr_ic rfl ?_
                              refine jr_zret rfl rfl rfl (Nat.zero_le _) (Nat.zero_le _) ?_
                              refine jr_zret rfl rfl rfl (Nat.zero_le _) (Nat.zero_le _) ?_
                              refine jr_if_ne rfl (fun z => absurd (by decide) z) (fun _ => ?_)
                              refine jr_ic rfl ?_
                              refine jr_iret rfl rfl (Nat.zero_le _) (Nat.zero_le _) ?_
                              first
                                | exact ⟨rfl, hRel0⟩
                                | (exfalso; omega)
                                | (exfalso; simp (disch := omega) only [Int32.lt_iff_toInt_lt, Int32.le_iff_toInt_le, ← Int32.toInt_inj, Int32.reduceToInt, nI_toInt] at c3 c5 c8 c1RephasPerson c5RephasPerson m2MDisIn m5MDisIn m5MDhasMonths m2MDisIn_2; done)
                                | (exfalso; simp (disch := omega) only [Int32.lt_iff_toInt_lt, Int32.le_iff_toInt_le, ← Int32.toInt_inj, Int32.reduceToInt, nI_toInt] at c3 c5 c8 c1RephasPerson c5RephasPerson m2MDisIn m5MDisIn m5MDhasMonths m2MDisIn_2; omega)
                            · refine jr_iload rfl rfl ?_
                              refine jr_iload rfl rfl ?_
                              refine jr_icmp_gt rfl (fun m5MDisIn_2 => ?_) (fun m5MDisIn_2 => ?_)
                              · refine jr_ic rfl ?_
                                refine jr_zret rfl rfl rfl (Nat.zero_le _) (Nat.zero_le _) ?_
                                refine jr_zret rfl rfl rfl (Nat.zero_le _) (Nat.zero_le _) ?_
                                refine jr_if_ne rfl (fun z => absurd (by decide) z) (fun _ => ?_)
                                refine jr_ic rfl ?_
                                refine jr_iret rfl rfl (Nat.zero_le _) (Nat.zero_le _) ?_
                                first
                                  | exact ⟨rfl, hRel0⟩
                                  | (exfalso; omega)
                                  | (exfalso; simp (disch := omega) only [Int32.lt_iff_toInt_lt, Int32.le_iff_toInt_le, ← Int32.toInt_inj, Int32.reduceToInt, nI_toInt] at c3 c5 c8 c1RephasPerson c5RephasPerson m2MDisIn m5MDisIn m5MDhasMonths m2MDisIn_2 m5MDisIn_2; done)
                                  | (exfalso; simp (disch := omega) only [Int32.lt_iff_toInt_lt, Int32.le_iff_toInt_le, ← Int32.toInt_inj, Int32.reduceToInt, nI_toInt] at c3 c5 c8 c1RephasPerson c5RephasPerson m2MDisIn m5MDisIn m5MDhasMonths m2MDisIn_2 m5MDisIn_2; omega)
                              · refine jr_ic rfl ?_
                                refine jr_goto rfl ?_
                                refine jr_zret rfl rfl rfl (Nat.zero_le _) (Nat.zero_le _) ?_
                                refine jr_zret rfl rfl rfl (Nat.zero_le _) (Nat.zero_le _) ?_
                                refine jr_if_ne rfl (fun _ => ?_) (fun z => absurd z (by decide))
                                first
                                  | (exfalso; omega)
                                  | (exfalso; simp (disch := omega) only [Int32.lt_iff_toInt_lt, Int32.le_iff_toInt_le, ← Int32.toInt_inj, Int32.reduceToInt, nI_toInt] at c3 c5 c8 c1RephasPerson c5RephasPerson m2MDisIn m5MDisIn m5MDhasMonths m2MDisIn_2 m5MDisIn_2; done)
                                  | (exfalso; simp (disch := omega) only [Int32.lt_iff_toInt_lt, Int32.le_iff_toInt_le, ← Int32.toInt_inj, Int32.reduceToInt, nI_toInt] at c3 c5 c8 c1RephasPerson c5RephasPerson m2MDisIn m5MDisIn m5MDhasMonths m2MDisIn_2 m5MDisIn_2; omega)
                    · refine jr_ic rfl ?_
                      refine jr_goto rfl ?_
                      refine jr_zret rfl rfl rfl (Nat.zero_le _) (Nat.zero_le _) ?_
                      refine jr_if_eq rfl (fun z => absurd z (by decide)) (fun _ => ?_)
                      refine jr_aload rfl rfl ?_
                      refine jr_getR rfl rfl rfl rfl (Or.inl rfl) ?_
                      refine jr_aload rfl rfl ?_
                      refine jr_getR rfl rfl rfl rfl (Or.inl rfl) ?_
                      refine jr_iload rfl rfl ?_
                      refine jr_iload rfl rfl ?_
                      refine jr_cv3 (mc' := 0) (ms' := 0) rfl jm_For_hadAhead_n jm_For_hadAhead_f rfl rfl rfl rfl rfl rfl rfl (Nat.zero_le _) (Nat.zero_le _) ?_
                      show jx_W (jm_For_hadAhead, _, _, _, _, _, _) _ 0 0 0 [some _, some _, some _, some _] [] _
                      refine jr_aload rfl rfl ?_
                      refine jr_aload rfl rfl ?_
                      refine jr_iload rfl rfl ?_
                      refine jr_cv2 (mc' := 0) (ms' := 0) rfl jm_For_stepFrom_n jm_For_stepFrom_f rfl rfl rfl rfl rfl rfl rfl (Nat.zero_le _) (Nat.zero_le _) ?_
                      refine ev_For_stepFrom hw hmo hR hA g1 (by omega) (fun T1 S1 kc1 hT1 => ?_)
                      refine jr_iload rfl rfl ?_
                      refine jr_if_lt rfl (fun c5ForhadAhead => ?_) (fun c5ForhadAhead => ?_)
                      · refine jr_ic rfl ?_
                        refine jr_iret rfl rfl (Nat.zero_le _) (Nat.zero_le _) ?_
                        refine jr_goto rfl ?_
                        refine jr_iret rfl rfl (Nat.zero_le _) (Nat.zero_le _) ?_
                        show jx_W (jm_MD_ahead, d + 40, 0, 0, false, 1, _) _ 0 0 0 [some _, some _, some _, some _, none, none] [] _
                        refine jr_iload rfl rfl ?_
                        refine jr_ic rfl ?_
                        refine jr_ic rfl ?_
                        refine jr_cs3 (mc' := 0) (ms' := 0) rfl jm_MD_isIn_n jm_MD_isIn_f rfl rfl rfl rfl rfl (Nat.zero_le _) (Nat.zero_le _) ?_
                        show jx_W (jm_MD_isIn, _, _, _, _, _, _) _ 0 0 0 [some _, some _, some _] [] _
                        refine jr_iload rfl rfl ?_
                        refine jr_iload rfl rfl ?_
                        refine jr_icmp_lt rfl (fun m2MDisIn => ?_) (fun m2MDisIn => ?_)
                        · refine jr_ic rfl ?_
                          refine jr_zret rfl rfl rfl (Nat.zero_le _) (Nat.zero_le _) ?_
                          refine jr_if_eq rfl (fun _ => ?_) (fun z => absurd (by decide) z)
                          refine jr_ic rfl ?_
                          refine jr_iret rfl rfl (Nat.zero_le _) (Nat.zero_le _) ?_
                          first
                            | exact ⟨rfl, hRel0⟩
                            | (exfalso; omega)
                            | (exfalso; simp (disch := omega) only [Int32.lt_iff_toInt_lt, Int32.le_iff_toInt_le, ← Int32.toInt_inj, Int32.reduceToInt, nI_toInt] at c3 c5 c8 c1RephasPerson c5RephasPerson c5ForhadAhead m2MDisIn; done)
                            | (exfalso; simp (disch := omega) only [Int32.lt_iff_toInt_lt, Int32.le_iff_toInt_le, ← Int32.toInt_inj, Int32.reduceToInt, nI_toInt] at c3 c5 c8 c1RephasPerson c5RephasPerson c5ForhadAhead m2MDisIn; omega)
                        · refine jr_iload rfl rfl ?_
                          refine jr_iload rfl rfl ?_
                          refine jr_icmp_gt rfl (fun m5MDisIn => ?_) (fun m5MDisIn => ?_)
                          · refine jr_ic rfl ?_
                            refine jr_zret rfl rfl rfl (Nat.zero_le _) (Nat.zero_le _) ?_
                            refine jr_if_eq rfl (fun _ => ?_) (fun z => absurd (by decide) z)
                            refine jr_ic rfl ?_
                            refine jr_iret rfl rfl (Nat.zero_le _) (Nat.zero_le _) ?_
                            first
                              | exact ⟨rfl, hRel0⟩
                              | (exfalso; omega)
                              | (exfalso; simp (disch := omega) only [Int32.lt_iff_toInt_lt, Int32.le_iff_toInt_le, ← Int32.toInt_inj, Int32.reduceToInt, nI_toInt] at c3 c5 c8 c1RephasPerson c5RephasPerson c5ForhadAhead m2MDisIn m5MDisIn; done)
                              | (exfalso; simp (disch := omega) only [Int32.lt_iff_toInt_lt, Int32.le_iff_toInt_le, ← Int32.toInt_inj, Int32.reduceToInt, nI_toInt] at c3 c5 c8 c1RephasPerson c5RephasPerson c5ForhadAhead m2MDisIn m5MDisIn; omega)
                          · refine jr_ic rfl ?_
                            refine jr_goto rfl ?_
                            refine jr_zret rfl rfl rfl (Nat.zero_le _) (Nat.zero_le _) ?_
                            refine jr_if_eq rfl (fun z => absurd z (by decide)) (fun _ => ?_)
                            refine jr_iload rfl rfl ?_
                            refine jr_ic rfl ?_
                            refine jr_ic rfl ?_
                            refine jr_cs3 (mc' := 0) (ms' := 0) rfl jm_MD_isIn_n jm_MD_isIn_f rfl rfl rfl rfl rfl (Nat.zero_le _) (Nat.zero_le _) ?_
                            show jx_W (jm_MD_isIn, _, _, _, _, _, _) _ 0 0 0 [some _, some _, some _] [] _
                            refine jr_iload rfl rfl ?_
                            refine jr_iload rfl rfl ?_
                            refine jr_icmp_lt rfl (fun z => absurd z (by decide)) (fun _ => ?_)
                            refine jr_iload rfl rfl ?_
                            refine jr_iload rfl rfl ?_
                            refine jr_icmp_gt rfl (fun z => absurd z (by decide)) (fun _ => ?_)
                            refine jr_ic rfl ?_
                            refine jr_goto rfl ?_
                            refine jr_zret rfl rfl rfl (Nat.zero_le _) (Nat.zero_le _) ?_
                            refine jr_if_eq rfl (fun z => absurd z (by decide)) (fun _ => ?_)
                            refine jr_aload rfl rfl ?_
                            refine jr_cv0 (mc' := 0) (ms' := 0) rfl jm_MD_hasMonths_n jm_MD_hasMonths_f rfl rfl rfl rfl rfl rfl rfl (Nat.zero_le _) (Nat.zero_le _) ?_
                            show jx_W (jm_MD_hasMonths, _, _, _, _, _, _) _ 0 0 0 [some _] [] _
                            refine jr_aload rfl rfl ?_
                            refine jr_getR rfl rfl rfl rfl (Or.inl rfl) ?_
                            refine jr_aload rfl rfl ?_
                            refine jr_getI rfl rfl ?_
                            refine jr_iald (len := 2) rfl rfl hw.1 (by omega) ?_
                            refine jr_if_le rfl (fun m5MDhasMonths => ?_) (fun m5MDhasMonths => ?_)
                            · refine jr_ic rfl ?_
                              refine jr_zret rfl rfl rfl (Nat.zero_le _) (Nat.zero_le _) ?_
                              refine jr_if_eq rfl (fun _ => ?_) (fun z => absurd (by decide) z)
                              refine jr_ic rfl ?_
                              refine jr_iret rfl rfl (Nat.zero_le _) (Nat.zero_le _) ?_
                              first
                                | exact ⟨rfl, hRel0⟩
                                | (exfalso; omega)
                                | (exfalso; simp (disch := omega) only [Int32.lt_iff_toInt_lt, Int32.le_iff_toInt_le, ← Int32.toInt_inj, Int32.reduceToInt, nI_toInt] at c3 c5 c8 c1RephasPerson c5RephasPerson c5ForhadAhead m2MDisIn m5MDisIn m5MDhasMonths; done)
                                | (exfalso; simp (disch := omega) only [Int32.lt_iff_toInt_lt, Int32.le_iff_toInt_le, ← Int32.toInt_inj, Int32.reduceToInt, nI_toInt] at c3 c5 c8 c1RephasPerson c5RephasPerson c5ForhadAhead m2MDisIn m5MDisIn m5MDhasMonths; omega)
                            · refine jr_ic rfl ?_
                              refine jr_goto rfl ?_
                              refine jr_zret rfl rfl rfl (Nat.zero_le _) (Nat.zero_le _) ?_
                              refine jr_if_eq rfl (fun z => absurd z (by decide)) (fun _ => ?_)
                              refine jr_iload rfl rfl ?_
                              refine jr_ic rfl ?_
                              refine jr_icmp_ne rfl (fun z => absurd (by decide) z) (fun _ => ?_)
                              refine jr_aload rfl rfl ?_
                              refine jr_iload rfl rfl ?_
                              refine jr_cv1 (mc' := 0) (ms' := 0) rfl jm_MD_isPerson_n jm_MD_isPerson_f rfl rfl rfl rfl rfl rfl rfl (Nat.zero_le _) (Nat.zero_le _) ?_
                              show jx_W (jm_MD_isPerson, _, _, _, _, _, _) _ 0 0 0 [some _, some _] [] _
                              refine jr_iload rfl rfl ?_
                              refine jr_ic rfl ?_
                              refine jr_aload rfl rfl ?_
                              refine jr_cv0 (mc' := 0) (ms' := 0) rfl jm_MD_personMany_n jm_MD_personMany_f rfl rfl rfl rfl rfl rfl rfl (Nat.zero_le _) (Nat.zero_le _) ?_
                              show jx_W (jm_MD_personMany, _, _, _, _, _, _) _ 0 0 0 [some _] [] _
                              refine jr_aload rfl rfl ?_
                              refine jr_getR rfl rfl rfl rfl (Or.inl rfl) ?_
                              refine jr_aload rfl rfl ?_
                              refine jr_getI rfl rfl ?_
                              refine jr_iald (len := 2) rfl rfl hw.1 (by omega) ?_
                              refine jr_iret rfl rfl (Nat.zero_le _) (Nat.zero_le _) ?_
                              refine jr_ic rfl ?_
                              refine jr_isub rfl ?_
                              refine jr_cs3 (mc' := 0) (ms' := 0) rfl jm_MD_isIn_n jm_MD_isIn_f rfl rfl rfl rfl rfl (Nat.zero_le _) (Nat.zero_le _) ?_
                              show jx_W (jm_MD_isIn, _, _, _, _, _, _) _ 0 0 0 [some _, some _, some _] [] _
                              refine jr_iload rfl rfl ?_
                              refine jr_iload rfl rfl ?_
                              refine jr_icmp_lt rfl (fun m2MDisIn_2 => ?_) (fun m2MDisIn_2 => ?_)
                              · refine jr_ic rfl ?_
                                refine jr_zret rfl rfl rfl (Nat.zero_le _) (Nat.zero_le _) ?_
                                refine jr_zret rfl rfl rfl (Nat.zero_le _) (Nat.zero_le _) ?_
                                refine jr_if_ne rfl (fun z => absurd (by decide) z) (fun _ => ?_)
                                refine jr_ic rfl ?_
                                refine jr_iret rfl rfl (Nat.zero_le _) (Nat.zero_le _) ?_
                                first
                                  | exact ⟨rfl, hRel0⟩
                                  | (exfalso; omega)
                                  | (exfalso; simp (disch := omega) only [Int32.lt_iff_toInt_lt, Int32.le_iff_toInt_le, ← Int32.toInt_inj, Int32.reduceToInt, nI_toInt] at c3 c5 c8 c1RephasPerson c5RephasPerson c5ForhadAhead m2MDisIn m5MDisIn m5MDhasMonths m2MDisIn_2; done)
                                  | (exfalso; simp (disch := omega) only [Int32.lt_iff_toInt_lt, Int32.le_iff_toInt_le, ← Int32.toInt_inj, Int32.reduceToInt, nI_toInt] at c3 c5 c8 c1RephasPerson c5RephasPerson c5ForhadAhead m2MDisIn m5MDisIn m5MDhasMonths m2MDisIn_2; omega)
                              · refine jr_iload rfl rfl ?_
                                refine jr_iload rfl rfl ?_
                                refine jr_icmp_gt rfl (fun m5MDisIn_2 => ?_) (fun m5MDisIn_2 => ?_)
                                · refine jr_ic rfl ?_
                                  refine jr_zret rfl rfl rfl (Nat.zero_le _) (Nat.zero_le _) ?_
                                  refine jr_zret rfl rfl rfl (Nat.zero_le _) (Nat.zero_le _) ?_
                                  refine jr_if_ne rfl (fun z => absurd (by decide) z) (fun _ => ?_)
                                  refine jr_ic rfl ?_
                                  refine jr_iret rfl rfl (Nat.zero_le _) (Nat.zero_le _) ?_
                                  first
                                    | exact ⟨rfl, hRel0⟩
                                    | (exfalso; omega)
                                    | (exfalso; simp (disch := omega) only [Int32.lt_iff_toInt_lt, Int32.le_iff_toInt_le, ← Int32.toInt_inj, Int32.reduceToInt, nI_toInt] at c3 c5 c8 c1RephasPerson c5RephasPerson c5ForhadAhead m2MDisIn m5MDisIn m5MDhasMonths m2MDisIn_2 m5MDisIn_2; done)
                                    | (exfalso; simp (disch := omega) only [Int32.lt_iff_toInt_lt, Int32.le_iff_toInt_le, ← Int32.toInt_inj, Int32.reduceToInt, nI_toInt] at c3 c5 c8 c1RephasPerson c5RephasPerson c5ForhadAhead m2MDisIn m5MDisIn m5MDhasMonths m2MDisIn_2 m5MDisIn_2; omega)
                                · refine jr_ic rfl ?_
                                  refine jr_goto rfl ?_
                                  refine jr_zret rfl rfl rfl (Nat.zero_le _) (Nat.zero_le _) ?_
                                  refine jr_zret rfl rfl rfl (Nat.zero_le _) (Nat.zero_le _) ?_
                                  refine jr_if_ne rfl (fun _ => ?_) (fun z => absurd z (by decide))
                                  refine lp_MD_ahead_2 (p := p) (z := 0) hw hmo (by omega) g1 (by omega) (fun S5 hS5 => ?_)
                                  first
                                    | exact ⟨congrArg (fun z => some (jv_i z)) (hT1.2.2.1 p (by omega)).1, (jz_Rel_s hRel0 hS5)⟩
                                    | (exfalso; simp (disch := omega) only [Int32.lt_iff_toInt_lt, Int32.le_iff_toInt_le, ← Int32.toInt_inj, Int32.reduceToInt, nI_toInt] at c5ForhadAhead; omega)
                                    | (exfalso; simp (disch := omega) only [Int32.lt_iff_toInt_lt, Int32.le_iff_toInt_le, ← Int32.toInt_inj, Int32.reduceToInt, nI_toInt] at c8ForhadAhead; omega)
                      · refine jr_iload rfl rfl ?_
                        refine jr_ic rfl ?_
                        refine jr_icmp_ge rfl (fun c8ForhadAhead => ?_) (fun c8ForhadAhead => ?_)
                        · refine jr_ic rfl ?_
                          refine jr_iret rfl rfl (Nat.zero_le _) (Nat.zero_le _) ?_
                          refine jr_goto rfl ?_
                          refine jr_iret rfl rfl (Nat.zero_le _) (Nat.zero_le _) ?_
                          show jx_W (jm_MD_ahead, d + 40, 0, 0, false, 1, _) _ 0 0 0 [some _, some _, some _, some _, none, none] [] _
                          refine jr_iload rfl rfl ?_
                          refine jr_ic rfl ?_
                          refine jr_ic rfl ?_
                          refine jr_cs3 (mc' := 0) (ms' := 0) rfl jm_MD_isIn_n jm_MD_isIn_f rfl rfl rfl rfl rfl (Nat.zero_le _) (Nat.zero_le _) ?_
                          show jx_W (jm_MD_isIn, _, _, _, _, _, _) _ 0 0 0 [some _, some _, some _] [] _
                          refine jr_iload rfl rfl ?_
                          refine jr_iload rfl rfl ?_
                          refine jr_icmp_lt rfl (fun m2MDisIn => ?_) (fun m2MDisIn => ?_)
                          · refine jr_ic rfl ?_
                            refine jr_zret rfl rfl rfl (Nat.zero_le _) (Nat.zero_le _) ?_
                            refine jr_if_eq rfl (fun _ => ?_) (fun z => absurd (by decide) z)
                            refine jr_ic rfl ?_
                            refine jr_iret rfl rfl (Nat.zero_le _) (Nat.zero_le _) ?_
                            first
                              | exact ⟨rfl, hRel0⟩
                              | (exfalso; omega)
                              | (exfalso; simp (disch := omega) only [Int32.lt_iff_toInt_lt, Int32.le_iff_toInt_le, ← Int32.toInt_inj, Int32.reduceToInt, nI_toInt] at c3 c5 c8 c1RephasPerson c5RephasPerson c5ForhadAhead c8ForhadAhead m2MDisIn; done)
                              | (exfalso; simp (disch := omega) only [Int32.lt_iff_toInt_lt, Int32.le_iff_toInt_le, ← Int32.toInt_inj, Int32.reduceToInt, nI_toInt] at c3 c5 c8 c1RephasPerson c5RephasPerson c5ForhadAhead c8ForhadAhead m2MDisIn; omega)
                          · refine jr_iload rfl rfl ?_
                            refine jr_iload rfl rfl ?_
                            refine jr_icmp_gt rfl (fun m5MDisIn => ?_) (fun m5MDisIn => ?_)
                            · refine jr_ic rfl ?_
                              refine jr_zret rfl rfl rfl (Nat.zero_le _) (Nat.zero_le _) ?_
                              refine jr_if_eq rfl (fun _ => ?_) (fun z => absurd (by decide) z)
                              refine jr_ic rfl ?_
                              refine jr_iret rfl rfl (Nat.zero_le _) (Nat.zero_le _) ?_
                              first
                                | exact ⟨rfl, hRel0⟩
                                | (exfalso; omega)
                                | (exfalso; simp (disch := omega) only [Int32.lt_iff_toInt_lt, Int32.le_iff_toInt_le, ← Int32.toInt_inj, Int32.reduceToInt, nI_toInt] at c3 c5 c8 c1RephasPerson c5RephasPerson c5ForhadAhead c8ForhadAhead m2MDisIn m5MDisIn; done)
                                | (exfalso; simp (disch := omega) only [Int32.lt_iff_toInt_lt, Int32.le_iff_toInt_le, ← Int32.toInt_inj, Int32.reduceToInt, nI_toInt] at c3 c5 c8 c1RephasPerson c5RephasPerson c5ForhadAhead c8ForhadAhead m2MDisIn m5MDisIn; omega)
                            · refine jr_ic rfl ?_
                              refine jr_goto rfl ?_
                              refine jr_zret rfl rfl rfl (Nat.zero_le _) (Nat.zero_le _) ?_
                              refine jr_if_eq rfl (fun z => absurd z (by decide)) (fun _ => ?_)
                              refine jr_iload rfl rfl ?_
                              refine jr_ic rfl ?_
                              refine jr_ic rfl ?_
                              refine jr_cs3 (mc' := 0) (ms' := 0) rfl jm_MD_isIn_n jm_MD_isIn_f rfl rfl rfl rfl rfl (Nat.zero_le _) (Nat.zero_le _) ?_
                              show jx_W (jm_MD_isIn, _, _, _, _, _, _) _ 0 0 0 [some _, some _, some _] [] _
                              refine jr_iload rfl rfl ?_
                              refine jr_iload rfl rfl ?_
                              refine jr_icmp_lt rfl (fun z => absurd z (by decide)) (fun _ => ?_)
                              refine jr_iload rfl rfl ?_
                              refine jr_iload rfl rfl ?_
                              refine jr_icmp_gt rfl (fun z => absurd z (by decide)) (fun _ => ?_)
                              refine jr_ic rfl ?_
                              refine jr_goto rfl ?_
                              refine jr_zret rfl rfl rfl (Nat.zero_le _) (Nat.zero_le _) ?_
                              refine jr_if_eq rfl (fun z => absurd z (by decide)) (fun _ => ?_)
                              refine jr_aload rfl rfl ?_
                              refine jr_cv0 (mc' := 0) (ms' := 0) rfl jm_MD_hasMonths_n jm_MD_hasMonths_f rfl rfl rfl rfl rfl rfl rfl (Nat.zero_le _) (Nat.zero_le _) ?_
                              show jx_W (jm_MD_hasMonths, _, _, _, _, _, _) _ 0 0 0 [some _] [] _
                              refine jr_aload rfl rfl ?_
                              refine jr_getR rfl rfl rfl rfl (Or.inl rfl) ?_
                              refine jr_aload rfl rfl ?_
                              refine jr_getI rfl rfl ?_
                              refine jr_iald (len := 2) rfl rfl hw.1 (by omega) ?_
                              refine jr_if_le rfl (fun m5MDhasMonths => ?_) (fun m5MDhasMonths => ?_)
                              · refine jr_ic rfl ?_
                                refine jr_zret rfl rfl rfl (Nat.zero_le _) (Nat.zero_le _) ?_
                                refine jr_if_eq rfl (fun _ => ?_) (fun z => absurd (by decide) z)
                                refine jr_ic rfl ?_
                                refine jr_iret rfl rfl (Nat.zero_le _) (Nat.zero_le _) ?_
                                first
                                  | exact ⟨rfl, hRel0⟩
                                  | (exfalso; omega)
                                  | (exfalso; simp (disch := omega) only [Int32.lt_iff_toInt_lt, Int32.le_iff_toInt_le, ← Int32.toInt_inj, Int32.reduceToInt, nI_toInt] at c3 c5 c8 c1RephasPerson c5RephasPerson c5ForhadAhead c8ForhadAhead m2MDisIn m5MDisIn m5MDhasMonths; done)
                                  | (exfalso; simp (disch := omega) only [Int32.lt_iff_toInt_lt, Int32.le_iff_toInt_le, ← Int32.toInt_inj, Int32.reduceToInt, nI_toInt] at c3 c5 c8 c1RephasPerson c5RephasPerson c5ForhadAhead c8ForhadAhead m2MDisIn m5MDisIn m5MDhasMonths; omega)
                              · refine jr_ic rfl ?_
                                refine jr_goto rfl ?_
                                refine jr_zret rfl rfl rfl (Nat.zero_le _) (Nat.zero_le _) ?_
                                refine jr_if_eq rfl (fun z => absurd z (by decide)) (fun _ => ?_)
                                refine jr_iload rfl rfl ?_
                                refine jr_ic rfl ?_
                                refine jr_icmp_ne rfl (fun z => absurd (by decide) z) (fun _ => ?_)
                                refine jr_aload rfl rfl ?_
                                refine jr_iload rfl rfl ?_
                                refine jr_cv1 (mc' := 0) (ms' := 0) rfl jm_MD_isPerson_n jm_MD_isPerson_f rfl rfl rfl rfl rfl rfl rfl (Nat.zero_le _) (Nat.zero_le _) ?_
                                show jx_W (jm_MD_isPerson, _, _, _, _, _, _) _ 0 0 0 [some _, some _] [] _
                                refine jr_iload rfl rfl ?_
                                refine jr_ic rfl ?_
                                refine jr_aload rfl rfl ?_
                                refine jr_cv0 (mc' := 0) (ms' := 0) rfl jm_MD_personMany_n jm_MD_personMany_f rfl rfl rfl rfl rfl rfl rfl (Nat.zero_le _) (Nat.zero_le _) ?_
                                show jx_W (jm_MD_personMany, _, _, _, _, _, _) _ 0 0 0 [some _] [] _
                                refine jr_aload rfl rfl ?_
                                refine jr_getR rfl rfl rfl rfl (Or.inl rfl) ?_
                                refine jr_aload rfl rfl ?_
                                refine jr_getI rfl rfl ?_
                                refine jr_iald (len := 2) rfl rfl hw.1 (by omega) ?_
                                refine jr_iret rfl rfl (Nat.zero_le _) (Nat.zero_le _) ?_
                                refine jr_ic rfl ?_
                                refine jr_isub rfl ?_
                                refine jr_cs3 (mc' := 0) (ms' := 0) rfl jm_MD_isIn_n jm_MD_isIn_f rfl rfl rfl rfl rfl (Nat.zero_le _) (Nat.zero_le _) ?_
                                show jx_W (jm_MD_isIn, _, _, _, _, _, _) _ 0 0 0 [some _, some _, some _] [] _
                                refine jr_iload rfl rfl ?_
                                refine jr_iload rfl rfl ?_
                                refine jr_icmp_lt rfl (fun m2MDisIn_2 => ?_) (fun m2MDisIn_2 => ?_)
                                · refine jr_ic rfl ?_
                                  refine jr_zret rfl rfl rfl (Nat.zero_le _) (Nat.zero_le _) ?_
                                  refine jr_zret rfl rfl rfl (Nat.zero_le _) (Nat.zero_le _) ?_
                                  refine jr_if_ne rfl (fun z => absurd (by decide) z) (fun _ => ?_)
                                  refine jr_ic rfl ?_
                                  refine jr_iret rfl rfl (Nat.zero_le _) (Nat.zero_le _) ?_
                                  first
                                    | exact ⟨rfl, hRel0⟩
                                    | (exfalso; omega)
                                    | (exfalso; simp (disch := omega) only [Int32.lt_iff_toInt_lt, Int32.le_iff_toInt_le, ← Int32.toInt_inj, Int32.reduceToInt, nI_toInt] at c3 c5 c8 c1RephasPerson c5RephasPerson c5ForhadAhead c8ForhadAhead m2MDisIn m5MDisIn m5MDhasMonths m2MDisIn_2; done)
                                    | (exfalso; simp (disch := omega) only [Int32.lt_iff_toInt_lt, Int32.le_iff_toInt_le, ← Int32.toInt_inj, Int32.reduceToInt, nI_toInt] at c3 c5 c8 c1RephasPerson c5RephasPerson c5ForhadAhead c8ForhadAhead m2MDisIn m5MDisIn m5MDhasMonths m2MDisIn_2; omega)
                                · refine jr_iload rfl rfl ?_
                                  refine jr_iload rfl rfl ?_
                                  refine jr_icmp_gt rfl (fun m5MDisIn_2 => ?_) (fun m5MDisIn_2 => ?_)
                                  · refine jr_ic rfl ?_
                                    refine jr_zret rfl rfl rfl (Nat.zero_le _) (Nat.zero_le _) ?_
                                    refine jr_zret rfl rfl rfl (Nat.zero_le _) (Nat.zero_le _) ?_
                                    refine jr_if_ne rfl (fun z => absurd (by decide) z) (fun _ => ?_)
                                    refine jr_ic rfl ?_
                                    refine jr_iret rfl rfl (Nat.zero_le _) (Nat.zero_le _) ?_
                                    first
                                      | exact ⟨rfl, hRel0⟩
                                      | (exfalso; omega)
                                      | (exfalso; simp (disch := omega) only [Int32.lt_iff_toInt_lt, Int32.le_iff_toInt_le, ← Int32.toInt_inj, Int32.reduceToInt, nI_toInt] at c3 c5 c8 c1RephasPerson c5RephasPerson c5ForhadAhead c8ForhadAhead m2MDisIn m5MDisIn m5MDhasMonths m2MDisIn_2 m5MDisIn_2; done)
                                      | (exfalso; simp (disch := omega) only [Int32.lt_iff_toInt_lt, Int32.le_iff_toInt_le, ← Int32.toInt_inj, Int32.reduceToInt, nI_toInt] at c3 c5 c8 c1RephasPerson c5RephasPerson c5ForhadAhead c8ForhadAhead m2MDisIn m5MDisIn m5MDhasMonths m2MDisIn_2 m5MDisIn_2; omega)
                                  · refine jr_ic rfl ?_
                                    refine jr_goto rfl ?_
                                    refine jr_zret rfl rfl rfl (Nat.zero_le _) (Nat.zero_le _) ?_
                                    refine jr_zret rfl rfl rfl (Nat.zero_le _) (Nat.zero_le _) ?_
                                    refine jr_if_ne rfl (fun _ => ?_) (fun z => absurd z (by decide))
                                    refine lp_MD_ahead_2 (p := p) (z := 0) hw hmo (by omega) g1 (by omega) (fun S5 hS5 => ?_)
                                    first
                                      | exact ⟨congrArg (fun z => some (jv_i z)) (hT1.2.2.1 p (by omega)).1, (jz_Rel_s hRel0 hS5)⟩
                                      | (exfalso; simp (disch := omega) only [Int32.lt_iff_toInt_lt, Int32.le_iff_toInt_le, ← Int32.toInt_inj, Int32.reduceToInt, nI_toInt] at c5ForhadAhead; omega)
                                      | (exfalso; simp (disch := omega) only [Int32.lt_iff_toInt_lt, Int32.le_iff_toInt_le, ← Int32.toInt_inj, Int32.reduceToInt, nI_toInt] at c8ForhadAhead; omega)
                        · refine jr_aload rfl rfl ?_
                          refine jr_getR rfl rfl rfl rfl (Or.inl rfl) ?_
                          refine jr_getR rfl rfl rfl rfl (Or.inl rfl) ?_
                          refine jr_iload rfl rfl ?_
                          refine jr_iald (len := 5) rfl rfl rfl (by omega) ?_
                          refine jr_goto rfl ?_
                          refine jr_iret rfl rfl (Nat.zero_le _) (Nat.zero_le _) ?_
                          refine jr_goto rfl ?_
                          refine jr_iret rfl rfl (Nat.zero_le _) (Nat.zero_le _) ?_
                          show jx_W (jm_MD_ahead, d + 40, 0, 0, false, 1, _) _ 0 0 0 [some _, some _, some _, some _, none, none] [] _
                          refine jr_iload rfl rfl ?_
                          refine jr_ic rfl ?_
                          refine jr_ic rfl ?_
                          refine jr_cs3 (mc' := 0) (ms' := 0) rfl jm_MD_isIn_n jm_MD_isIn_f rfl rfl rfl rfl rfl (Nat.zero_le _) (Nat.zero_le _) ?_
                          show jx_W (jm_MD_isIn, _, _, _, _, _, _) _ 0 0 0 [some _, some _, some _] [] _
                          refine jr_iload rfl rfl ?_
                          refine jr_iload rfl rfl ?_
                          refine jr_icmp_lt rfl (fun m2MDisIn => ?_) (fun m2MDisIn => ?_)
                          · refine jr_ic rfl ?_
                            refine jr_zret rfl rfl rfl (Nat.zero_le _) (Nat.zero_le _) ?_
                            refine jr_if_eq rfl (fun _ => ?_) (fun z => absurd (by decide) z)
                            refine jr_ic rfl ?_
                            refine jr_iret rfl rfl (Nat.zero_le _) (Nat.zero_le _) ?_
                            first
                              | exact ⟨rfl, hRel0⟩
                              | (exfalso; omega)
                              | (exfalso; simp (disch := omega) only [Int32.lt_iff_toInt_lt, Int32.le_iff_toInt_le, ← Int32.toInt_inj, Int32.reduceToInt, nI_toInt] at c3 c5 c8 c1RephasPerson c5RephasPerson c5ForhadAhead c8ForhadAhead m2MDisIn; done)
                              | (exfalso; simp (disch := omega) only [Int32.lt_iff_toInt_lt, Int32.le_iff_toInt_le, ← Int32.toInt_inj, Int32.reduceToInt, nI_toInt] at c3 c5 c8 c1RephasPerson c5RephasPerson c5ForhadAhead c8ForhadAhead m2MDisIn; omega)
                          · refine jr_iload rfl rfl ?_
                            refine jr_iload rfl rfl ?_
                            refine jr_icmp_gt rfl (fun m5MDisIn => ?_) (fun m5MDisIn => ?_)
                            · refine jr_ic rfl ?_
                              refine jr_zret rfl rfl rfl (Nat.zero_le _) (Nat.zero_le _) ?_
                              refine jr_if_eq rfl (fun _ => ?_) (fun z => absurd (by decide) z)
                              refine jr_ic rfl ?_
                              refine jr_iret rfl rfl (Nat.zero_le _) (Nat.zero_le _) ?_
                              first
                                | exact ⟨rfl, hRel0⟩
                                | (exfalso; omega)
                                | (exfalso; simp (disch := omega) only [Int32.lt_iff_toInt_lt, Int32.le_iff_toInt_le, ← Int32.toInt_inj, Int32.reduceToInt, nI_toInt] at c3 c5 c8 c1RephasPerson c5RephasPerson c5ForhadAhead c8ForhadAhead m2MDisIn m5MDisIn; done)
                                | (exfalso; simp (disch := omega) only [Int32.lt_iff_toInt_lt, Int32.le_iff_toInt_le, ← Int32.toInt_inj, Int32.reduceToInt, nI_toInt] at c3 c5 c8 c1RephasPerson c5RephasPerson c5ForhadAhead c8ForhadAhead m2MDisIn m5MDisIn; omega)
                            · refine jr_ic rfl ?_
                              refine jr_goto rfl ?_
                              refine jr_zret rfl rfl rfl (Nat.zero_le _) (Nat.zero_le _) ?_
                              refine jr_if_eq rfl (fun z => absurd z (by decide)) (fun _ => ?_)
                              refine jr_iload rfl rfl ?_
                              refine jr_ic rfl ?_
                              refine jr_ic rfl ?_
                              refine jr_cs3 (mc' := 0) (ms' := 0) rfl jm_MD_isIn_n jm_MD_isIn_f rfl rfl rfl rfl rfl (Nat.zero_le _) (Nat.zero_le _) ?_
                              show jx_W (jm_MD_isIn, _, _, _, _, _, _) _ 0 0 0 [some _, some _, some _] [] _
                              refine jr_iload rfl rfl ?_
                              refine jr_iload rfl rfl ?_
                              refine jr_icmp_lt rfl (fun z => absurd z (by decide)) (fun _ => ?_)
                              refine jr_iload rfl rfl ?_
                              refine jr_iload rfl rfl ?_
                              refine jr_icmp_gt rfl (fun z => absurd z (by decide)) (fun _ => ?_)
                              refine jr_ic rfl ?_
                              refine jr_goto rfl ?_
                              refine jr_zret rfl rfl rfl (Nat.zero_le _) (Nat.zero_le _) ?_
                              refine jr_if_eq rfl (fun z => absurd z (by decide)) (fun _ => ?_)
                              refine jr_aload rfl rfl ?_
                              refine jr_cv0 (mc' := 0) (ms' := 0) rfl jm_MD_hasMonths_n jm_MD_hasMonths_f rfl rfl rfl rfl rfl rfl rfl (Nat.zero_le _) (Nat.zero_le _) ?_
                              show jx_W (jm_MD_hasMonths, _, _, _, _, _, _) _ 0 0 0 [some _] [] _
                              refine jr_aload rfl rfl ?_
                              refine jr_getR rfl rfl rfl rfl (Or.inl rfl) ?_
                              refine jr_aload rfl rfl ?_
                              refine jr_getI rfl rfl ?_
                              refine jr_iald (len := 2) rfl rfl hw.1 (by omega) ?_
                              refine jr_if_le rfl (fun m5MDhasMonths => ?_) (fun m5MDhasMonths => ?_)
                              · refine jr_ic rfl ?_
                                refine jr_zret rfl rfl rfl (Nat.zero_le _) (Nat.zero_le _) ?_
                                refine jr_if_eq rfl (fun _ => ?_) (fun z => absurd (by decide) z)
                                refine jr_ic rfl ?_
                                refine jr_iret rfl rfl (Nat.zero_le _) (Nat.zero_le _) ?_
                                first
                                  | exact ⟨rfl, hRel0⟩
                                  | (exfalso; omega)
                                  | (exfalso; simp (disch := omega) only [Int32.lt_iff_toInt_lt, Int32.le_iff_toInt_le, ← Int32.toInt_inj, Int32.reduceToInt, nI_toInt] at c3 c5 c8 c1RephasPerson c5RephasPerson c5ForhadAhead c8ForhadAhead m2MDisIn m5MDisIn m5MDhasMonths; done)
                                  | (exfalso; simp (disch := omega) only [Int32.lt_iff_toInt_lt, Int32.le_iff_toInt_le, ← Int32.toInt_inj, Int32.reduceToInt, nI_toInt] at c3 c5 c8 c1RephasPerson c5RephasPerson c5ForhadAhead c8ForhadAhead m2MDisIn m5MDisIn m5MDhasMonths; omega)
                              · refine jr_ic rfl ?_
                                refine jr_goto rfl ?_
                                refine jr_zret rfl rfl rfl (Nat.zero_le _) (Nat.zero_le _) ?_
                                refine jr_if_eq rfl (fun z => absurd z (by decide)) (fun _ => ?_)
                                refine jr_iload rfl rfl ?_
                                refine jr_ic rfl ?_
                                refine jr_icmp_ne rfl (fun z => absurd (by decide) z) (fun _ => ?_)
                                refine jr_aload rfl rfl ?_
                                refine jr_iload rfl rfl ?_
                                refine jr_cv1 (mc' := 0) (ms' := 0) rfl jm_MD_isPerson_n jm_MD_isPerson_f rfl rfl rfl rfl rfl rfl rfl (Nat.zero_le _) (Nat.zero_le _) ?_
                                show jx_W (jm_MD_isPerson, _, _, _, _, _, _) _ 0 0 0 [some _, some _] [] _
                                refine jr_iload rfl rfl ?_
                                refine jr_ic rfl ?_
                                refine jr_aload rfl rfl ?_
                                refine jr_cv0 (mc' := 0) (ms' := 0) rfl jm_MD_personMany_n jm_MD_personMany_f rfl rfl rfl rfl rfl rfl rfl (Nat.zero_le _) (Nat.zero_le _) ?_
                                show jx_W (jm_MD_personMany, _, _, _, _, _, _) _ 0 0 0 [some _] [] _
                                refine jr_aload rfl rfl ?_
                                refine jr_getR rfl rfl rfl rfl (Or.inl rfl) ?_
                                refine jr_aload rfl rfl ?_
                                refine jr_getI rfl rfl ?_
                                refine jr_iald (len := 2) rfl rfl hw.1 (by omega) ?_
                                refine jr_iret rfl rfl (Nat.zero_le _) (Nat.zero_le _) ?_
                                refine jr_ic rfl ?_
                                refine jr_isub rfl ?_
                                refine jr_cs3 (mc' := 0) (ms' := 0) rfl jm_MD_isIn_n jm_MD_isIn_f rfl rfl rfl rfl rfl (Nat.zero_le _) (Nat.zero_le _) ?_
                                show jx_W (jm_MD_isIn, _, _, _, _, _, _) _ 0 0 0 [some _, some _, some _] [] _
                                refine jr_iload rfl rfl ?_
                                refine jr_iload rfl rfl ?_
                                refine jr_icmp_lt rfl (fun m2MDisIn_2 => ?_) (fun m2MDisIn_2 => ?_)
                                · refine jr_ic rfl ?_
                                  refine jr_zret rfl rfl rfl (Nat.zero_le _) (Nat.zero_le _) ?_
                                  refine jr_zret rfl rfl rfl (Nat.zero_le _) (Nat.zero_le _) ?_
                                  refine jr_if_ne rfl (fun z => absurd (by decide) z) (fun _ => ?_)
                                  refine jr_ic rfl ?_
                                  refine jr_iret rfl rfl (Nat.zero_le _) (Nat.zero_le _) ?_
                                  first
                                    | exact ⟨rfl, hRel0⟩
                                    | (exfalso; omega)
                                    | (exfalso; simp (disch := omega) only [Int32.lt_iff_toInt_lt, Int32.le_iff_toInt_le, ← Int32.toInt_inj, Int32.reduceToInt, nI_toInt] at c3 c5 c8 c1RephasPerson c5RephasPerson c5ForhadAhead c8ForhadAhead m2MDisIn m5MDisIn m5MDhasMonths m2MDisIn_2; done)
                                    | (exfalso; simp (disch := omega) only [Int32.lt_iff_toInt_lt, Int32.le_iff_toInt_le, ← Int32.toInt_inj, Int32.reduceToInt, nI_toInt] at c3 c5 c8 c1RephasPerson c5RephasPerson c5ForhadAhead c8ForhadAhead m2MDisIn m5MDisIn m5MDhasMonths m2MDisIn_2; omega)
                                · refine jr_iload rfl rfl ?_
                                  refine jr_iload rfl rfl ?_
                                  refine jr_icmp_gt rfl (fun m5MDisIn_2 => ?_) (fun m5MDisIn_2 => ?_)
                                  · refine jr_ic rfl ?_
                                    refine jr_zret rfl rfl rfl (Nat.zero_le _) (Nat.zero_le _) ?_
                                    refine jr_zret rfl rfl rfl (Nat.zero_le _) (Nat.zero_le _) ?_
                                    refine jr_if_ne rfl (fun z => absurd (by decide) z) (fun _ => ?_)
                                    refine jr_ic rfl ?_
                                    refine jr_iret rfl rfl (Nat.zero_le _) (Nat.zero_le _) ?_
                                    first
                                      | exact ⟨rfl, hRel0⟩
                                      | (exfalso; omega)
                                      | (exfalso; simp (disch := omega) only [Int32.lt_iff_toInt_lt, Int32.le_iff_toInt_le, ← Int32.toInt_inj, Int32.reduceToInt, nI_toInt] at c3 c5 c8 c1RephasPerson c5RephasPerson c5ForhadAhead c8ForhadAhead m2MDisIn m5MDisIn m5MDhasMonths m2MDisIn_2 m5MDisIn_2; done)
                                      | (exfalso; simp (disch := omega) only [Int32.lt_iff_toInt_lt, Int32.le_iff_toInt_le, ← Int32.toInt_inj, Int32.reduceToInt, nI_toInt] at c3 c5 c8 c1RephasPerson c5RephasPerson c5ForhadAhead c8ForhadAhead m2MDisIn m5MDisIn m5MDhasMonths m2MDisIn_2 m5MDisIn_2; omega)
                                  · refine jr_ic rfl ?_
                                    refine jr_goto rfl ?_
                                    refine jr_zret rfl rfl rfl (Nat.zero_le _) (Nat.zero_le _) ?_
                                    refine jr_zret rfl rfl rfl (Nat.zero_le _) (Nat.zero_le _) ?_
                                    refine jr_if_ne rfl (fun _ => ?_) (fun z => absurd z (by decide))
                                    refine lp_MD_ahead_2 (p := p) (z := 0) hw hmo (by omega) g1 (by omega) (fun S5 hS5 => ?_)
                                    first
                                      | exact ⟨congrArg (fun z => some (jv_i z)) (hT1.2.2.1 p (by omega)).1, (jz_Rel_s hRel0 hS5)⟩
                                      | (exfalso; simp (disch := omega) only [Int32.lt_iff_toInt_lt, Int32.le_iff_toInt_le, ← Int32.toInt_inj, Int32.reduceToInt, nI_toInt] at c5ForhadAhead; omega)
                                      | (exfalso; simp (disch := omega) only [Int32.lt_iff_toInt_lt, Int32.le_iff_toInt_le, ← Int32.toInt_inj, Int32.reduceToInt, nI_toInt] at c8ForhadAhead; omega)
                · refine jr_ic rfl ?_
                  refine jr_iret rfl rfl (Nat.zero_le _) (Nat.zero_le _) ?_
                  show jx_W (jm_MD_ahead, d + 40, 0, 0, false, 1, _) _ 0 0 0 [some _, some _, some _, some _, none, none] [] _
                  refine jr_iload rfl rfl ?_
                  refine jr_ic rfl ?_
                  refine jr_ic rfl ?_
                  refine jr_cs3 (mc' := 0) (ms' := 0) rfl jm_MD_isIn_n jm_MD_isIn_f rfl rfl rfl rfl rfl (Nat.zero_le _) (Nat.zero_le _) ?_
                  show jx_W (jm_MD_isIn, _, _, _, _, _, _) _ 0 0 0 [some _, some _, some _] [] _
                  refine jr_iload rfl rfl ?_
                  refine jr_iload rfl rfl ?_
                  refine jr_icmp_lt rfl (fun m2MDisIn => ?_) (fun m2MDisIn => ?_)
                  · refine jr_ic rfl ?_
                    refine jr_zret rfl rfl rfl (Nat.zero_le _) (Nat.zero_le _) ?_
                    refine jr_if_eq rfl (fun _ => ?_) (fun z => absurd (by decide) z)
                    refine jr_ic rfl ?_
                    refine jr_iret rfl rfl (Nat.zero_le _) (Nat.zero_le _) ?_
                    first
                      | exact ⟨rfl, hRel0⟩
                      | (exfalso; omega)
                      | (exfalso; simp (disch := omega) only [Int32.lt_iff_toInt_lt, Int32.le_iff_toInt_le, ← Int32.toInt_inj, Int32.reduceToInt, nI_toInt] at c3 c5 c8 m2MDisIn; done)
                      | (exfalso; simp (disch := omega) only [Int32.lt_iff_toInt_lt, Int32.le_iff_toInt_le, ← Int32.toInt_inj, Int32.reduceToInt, nI_toInt] at c3 c5 c8 m2MDisIn; omega)
                  · refine jr_iload rfl rfl ?_
                    refine jr_iload rfl rfl ?_
                    refine jr_icmp_gt rfl (fun m5MDisIn => ?_) (fun m5MDisIn => ?_)
                    · refine jr_ic rfl ?_
                      refine jr_zret rfl rfl rfl (Nat.zero_le _) (Nat.zero_le _) ?_
                      refine jr_if_eq rfl (fun _ => ?_) (fun z => absurd (by decide) z)
                      refine jr_ic rfl ?_
                      refine jr_iret rfl rfl (Nat.zero_le _) (Nat.zero_le _) ?_
                      first
                        | exact ⟨rfl, hRel0⟩
                        | (exfalso; omega)
                        | (exfalso; simp (disch := omega) only [Int32.lt_iff_toInt_lt, Int32.le_iff_toInt_le, ← Int32.toInt_inj, Int32.reduceToInt, nI_toInt] at c3 c5 c8 m2MDisIn m5MDisIn; done)
                        | (exfalso; simp (disch := omega) only [Int32.lt_iff_toInt_lt, Int32.le_iff_toInt_le, ← Int32.toInt_inj, Int32.reduceToInt, nI_toInt] at c3 c5 c8 m2MDisIn m5MDisIn; omega)
                    · refine jr_ic rfl ?_
                      refine jr_goto rfl ?_
                      refine jr_zret rfl rfl rfl (Nat.zero_le _) (Nat.zero_le _) ?_
                      refine jr_if_eq rfl (fun z => absurd z (by decide)) (fun _ => ?_)
                      refine jr_iload rfl rfl ?_
                      refine jr_ic rfl ?_
                      refine jr_ic rfl ?_
                      refine jr_cs3 (mc' := 0) (ms' := 0) rfl jm_MD_isIn_n jm_MD_isIn_f rfl rfl rfl rfl rfl (Nat.zero_le _) (Nat.zero_le _) ?_
                      show jx_W (jm_MD_isIn, _, _, _, _, _, _) _ 0 0 0 [some _, some _, some _] [] _
                      refine jr_iload rfl rfl ?_
                      refine jr_iload rfl rfl ?_
                      refine jr_icmp_lt rfl (fun z => absurd z (by decide)) (fun _ => ?_)
                      refine jr_iload rfl rfl ?_
                      refine jr_iload rfl rfl ?_
                      refine jr_icmp_gt rfl (fun z => absurd z (by decide)) (fun _ => ?_)
                      refine jr_ic rfl ?_
                      refine jr_goto rfl ?_
                      refine jr_zret rfl rfl rfl (Nat.zero_le _) (Nat.zero_le _) ?_
                      refine jr_if_eq rfl (fun z => absurd z (by decide)) (fun _ => ?_)
                      refine jr_aload rfl rfl ?_
                      refine jr_cv0 (mc' := 0) (ms' := 0) rfl jm_MD_hasMonths_n jm_MD_hasMonths_f rfl rfl rfl rfl rfl rfl rfl (Nat.zero_le _) (Nat.zero_le _) ?_
                      show jx_W (jm_MD_hasMonths, _, _, _, _, _, _) _ 0 0 0 [some _] [] _
                      refine jr_aload rfl rfl ?_
                      refine jr_getR rfl rfl rfl rfl (Or.inl rfl) ?_
                      refine jr_aload rfl rfl ?_
                      refine jr_getI rfl rfl ?_
                      refine jr_iald (len := 2) rfl rfl hw.1 (by omega) ?_
                      refine jr_if_le rfl (fun m5MDhasMonths => ?_) (fun m5MDhasMonths => ?_)
                      · refine jr_ic rfl ?_
                        refine jr_zret rfl rfl rfl (Nat.zero_le _) (Nat.zero_le _) ?_
                        refine jr_if_eq rfl (fun _ => ?_) (fun z => absurd (by decide) z)
                        refine jr_ic rfl ?_
                        refine jr_iret rfl rfl (Nat.zero_le _) (Nat.zero_le _) ?_
                        first
                          | exact ⟨rfl, hRel0⟩
                          | (exfalso; omega)
                          | (exfalso; simp (disch := omega) only [Int32.lt_iff_toInt_lt, Int32.le_iff_toInt_le, ← Int32.toInt_inj, Int32.reduceToInt, nI_toInt] at c3 c5 c8 m2MDisIn m5MDisIn m5MDhasMonths; done)
                          | (exfalso; simp (disch := omega) only [Int32.lt_iff_toInt_lt, Int32.le_iff_toInt_le, ← Int32.toInt_inj, Int32.reduceToInt, nI_toInt] at c3 c5 c8 m2MDisIn m5MDisIn m5MDhasMonths; omega)
                      · refine jr_ic rfl ?_
                        refine jr_goto rfl ?_
                        refine jr_zret rfl rfl rfl (Nat.zero_le _) (Nat.zero_le _) ?_
                        refine jr_if_eq rfl (fun z => absurd z (by decide)) (fun _ => ?_)
                        refine jr_iload rfl rfl ?_
                        refine jr_ic rfl ?_
                        refine jr_icmp_ne rfl (fun z => absurd (by decide) z) (fun _ => ?_)
                        refine jr_aload rfl rfl ?_
                        refine jr_iload rfl rfl ?_
                        refine jr_cv1 (mc' := 0) (ms' := 0) rfl jm_MD_isPerson_n jm_MD_isPerson_f rfl rfl rfl rfl rfl rfl rfl (Nat.zero_le _) (Nat.zero_le _) ?_
                        show jx_W (jm_MD_isPerson, _, _, _, _, _, _) _ 0 0 0 [some _, some _] [] _
                        refine jr_iload rfl rfl ?_
                        refine jr_ic rfl ?_
                        refine jr_aload rfl rfl ?_
                        refine jr_cv0 (mc' := 0) (ms' := 0) rfl jm_MD_personMany_n jm_MD_personMany_f rfl rfl rfl rfl rfl rfl rfl (Nat.zero_le _) (Nat.zero_le _) ?_
                        show jx_W (jm_MD_personMany, _, _, _, _, _, _) _ 0 0 0 [some _] [] _
                        refine jr_aload rfl rfl ?_
                        refine jr_getR rfl rfl rfl rfl (Or.inl rfl) ?_
                        refine jr_aload rfl rfl ?_
                        refine jr_getI rfl rfl ?_
                        refine jr_iald (len := 2) rfl rfl hw.1 (by omega) ?_
                        refine jr_iret rfl rfl (Nat.zero_le _) (Nat.zero_le _) ?_
                        refine jr_ic rfl ?_
                        refine jr_isub rfl ?_
                        refine jr_cs3 (mc' := 0) (ms' := 0) rfl jm_MD_isIn_n jm_MD_isIn_f rfl rfl rfl rfl rfl (Nat.zero_le _) (Nat.zero_le _) ?_
                        show jx_W (jm_MD_isIn, _, _, _, _, _, _) _ 0 0 0 [some _, some _, some _] [] _
                        refine jr_iload rfl rfl ?_
                        refine jr_iload rfl rfl ?_
                        refine jr_icmp_lt rfl (fun m2MDisIn_2 => ?_) (fun m2MDisIn_2 => ?_)
                        · refine jr_ic rfl ?_
                          refine jr_zret rfl rfl rfl (Nat.zero_le _) (Nat.zero_le _) ?_
                          refine jr_zret rfl rfl rfl (Nat.zero_le _) (Nat.zero_le _) ?_
                          refine jr_if_ne rfl (fun z => absurd (by decide) z) (fun _ => ?_)
                          refine jr_ic rfl ?_
                          refine jr_iret rfl rfl (Nat.zero_le _) (Nat.zero_le _) ?_
                          first
                            | exact ⟨rfl, hRel0⟩
                            | (exfalso; omega)
                            | (exfalso; simp (disch := omega) only [Int32.lt_iff_toInt_lt, Int32.le_iff_toInt_le, ← Int32.toInt_inj, Int32.reduceToInt, nI_toInt] at c3 c5 c8 m2MDisIn m5MDisIn m5MDhasMonths m2MDisIn_2; done)
                            | (exfalso; simp (disch := omega) only [Int32.lt_iff_toInt_lt, Int32.le_iff_toInt_le, ← Int32.toInt_inj, Int32.reduceToInt, nI_toInt] at c3 c5 c8 m2MDisIn m5MDisIn m5MDhasMonths m2MDisIn_2; omega)
                        · refine jr_iload rfl rfl ?_
                          refine jr_iload rfl rfl ?_
                          refine jr_icmp_gt rfl (fun m5MDisIn_2 => ?_) (fun m5MDisIn_2 => ?_)
                          · refine jr_ic rfl ?_
                            refine jr_zret rfl rfl rfl (Nat.zero_le _) (Nat.zero_le _) ?_
                            refine jr_zret rfl rfl rfl (Nat.zero_le _) (Nat.zero_le _) ?_
                            refine jr_if_ne rfl (fun z => absurd (by decide) z) (fun _ => ?_)
                            refine jr_ic rfl ?_
                            refine jr_iret rfl rfl (Nat.zero_le _) (Nat.zero_le _) ?_
                            first
                              | exact ⟨rfl, hRel0⟩
                              | (exfalso; omega)
                              | (exfalso; simp (disch := omega) only [Int32.lt_iff_toInt_lt, Int32.le_iff_toInt_le, ← Int32.toInt_inj, Int32.reduceToInt, nI_toInt] at c3 c5 c8 m2MDisIn m5MDisIn m5MDhasMonths m2MDisIn_2 m5MDisIn_2; done)
                              | (exfalso; simp (disch := omega) only [Int32.lt_iff_toInt_lt, Int32.le_iff_toInt_le, ← Int32.toInt_inj, Int32.reduceToInt, nI_toInt] at c3 c5 c8 m2MDisIn m5MDisIn m5MDhasMonths m2MDisIn_2 m5MDisIn_2; omega)
                          · refine jr_ic rfl ?_
                            refine jr_goto rfl ?_
                            refine jr_zret rfl rfl rfl (Nat.zero_le _) (Nat.zero_le _) ?_
                            refine jr_zret rfl rfl rfl (Nat.zero_le _) (Nat.zero_le _) ?_
                            refine jr_if_ne rfl (fun _ => ?_) (fun z => absurd z (by decide))
                            first
                              | (exfalso; omega)
                              | (exfalso; simp (disch := omega) only [Int32.lt_iff_toInt_lt, Int32.le_iff_toInt_le, ← Int32.toInt_inj, Int32.reduceToInt, nI_toInt] at c3 c5 c8 m2MDisIn m5MDisIn m5MDhasMonths m2MDisIn_2 m5MDisIn_2; done)
                              | (exfalso; simp (disch := omega) only [Int32.lt_iff_toInt_lt, Int32.le_iff_toInt_le, ← Int32.toInt_inj, Int32.reduceToInt, nI_toInt] at c3 c5 c8 m2MDisIn m5MDisIn m5MDhasMonths m2MDisIn_2 m5MDisIn_2; omega)
          · show jx_W (jm_JV_ahead, d + 40, 0, 0, false, 0, _) _ 0 0 0 [some (jv_r 10 0), some (jv_i (nI i)), some (jv_i 2), some (jv_i z)] [] _
            refine jr_aload rfl rfl ?_
            refine jr_getM rfl rfl rfl rfl hto ?_
            refine jr_getI rfl rfl ?_
            refine jr_if_eq rfl (fun c3 => ?_) (fun c3 => ?_)
            · refine jr_ic rfl ?_
              refine jr_iret rfl rfl (Nat.zero_le _) (Nat.zero_le _) ?_
              show jx_W (jm_MD_ahead, d + 40, 0, 0, false, 1, _) _ 0 0 0 [some _, some _, some _, some _, none, none] [] _
              refine jr_iload rfl rfl ?_
              refine jr_ic rfl ?_
              refine jr_ic rfl ?_
              refine jr_cs3 (mc' := 0) (ms' := 0) rfl jm_MD_isIn_n jm_MD_isIn_f rfl rfl rfl rfl rfl (Nat.zero_le _) (Nat.zero_le _) ?_
              show jx_W (jm_MD_isIn, _, _, _, _, _, _) _ 0 0 0 [some _, some _, some _] [] _
              refine jr_iload rfl rfl ?_
              refine jr_iload rfl rfl ?_
              refine jr_icmp_lt rfl (fun m2MDisIn => ?_) (fun m2MDisIn => ?_)
              · refine jr_ic rfl ?_
                refine jr_zret rfl rfl rfl (Nat.zero_le _) (Nat.zero_le _) ?_
                refine jr_if_eq rfl (fun _ => ?_) (fun z => absurd (by decide) z)
                refine jr_ic rfl ?_
                refine jr_iret rfl rfl (Nat.zero_le _) (Nat.zero_le _) ?_
                first
                  | exact ⟨rfl, hRel0⟩
                  | (exfalso; omega)
                  | (exfalso; simp (disch := omega) only [Int32.lt_iff_toInt_lt, Int32.le_iff_toInt_le, ← Int32.toInt_inj, Int32.reduceToInt, nI_toInt] at c3 m2MDisIn; done)
                  | (exfalso; simp (disch := omega) only [Int32.lt_iff_toInt_lt, Int32.le_iff_toInt_le, ← Int32.toInt_inj, Int32.reduceToInt, nI_toInt] at c3 m2MDisIn; omega)
              · refine jr_iload rfl rfl ?_
                refine jr_iload rfl rfl ?_
                refine jr_icmp_gt rfl (fun m5MDisIn => ?_) (fun m5MDisIn => ?_)
                · refine jr_ic rfl ?_
                  refine jr_zret rfl rfl rfl (Nat.zero_le _) (Nat.zero_le _) ?_
                  refine jr_if_eq rfl (fun _ => ?_) (fun z => absurd (by decide) z)
                  refine jr_ic rfl ?_
                  refine jr_iret rfl rfl (Nat.zero_le _) (Nat.zero_le _) ?_
                  first
                    | exact ⟨rfl, hRel0⟩
                    | (exfalso; omega)
                    | (exfalso; simp (disch := omega) only [Int32.lt_iff_toInt_lt, Int32.le_iff_toInt_le, ← Int32.toInt_inj, Int32.reduceToInt, nI_toInt] at c3 m2MDisIn m5MDisIn; done)
                    | (exfalso; simp (disch := omega) only [Int32.lt_iff_toInt_lt, Int32.le_iff_toInt_le, ← Int32.toInt_inj, Int32.reduceToInt, nI_toInt] at c3 m2MDisIn m5MDisIn; omega)
                · refine jr_ic rfl ?_
                  refine jr_goto rfl ?_
                  refine jr_zret rfl rfl rfl (Nat.zero_le _) (Nat.zero_le _) ?_
                  refine jr_if_eq rfl (fun z => absurd z (by decide)) (fun _ => ?_)
                  refine jr_iload rfl rfl ?_
                  refine jr_ic rfl ?_
                  refine jr_ic rfl ?_
                  refine jr_cs3 (mc' := 0) (ms' := 0) rfl jm_MD_isIn_n jm_MD_isIn_f rfl rfl rfl rfl rfl (Nat.zero_le _) (Nat.zero_le _) ?_
                  show jx_W (jm_MD_isIn, _, _, _, _, _, _) _ 0 0 0 [some _, some _, some _] [] _
                  refine jr_iload rfl rfl ?_
                  refine jr_iload rfl rfl ?_
                  refine jr_icmp_lt rfl (fun z => absurd z (by decide)) (fun _ => ?_)
                  refine jr_iload rfl rfl ?_
                  refine jr_iload rfl rfl ?_
                  refine jr_icmp_gt rfl (fun z => absurd z (by decide)) (fun _ => ?_)
                  refine jr_ic rfl ?_
                  refine jr_goto rfl ?_
                  refine jr_zret rfl rfl rfl (Nat.zero_le _) (Nat.zero_le _) ?_
                  refine jr_if_eq rfl (fun z => absurd z (by decide)) (fun _ => ?_)
                  refine jr_aload rfl rfl ?_
                  refine jr_cv0 (mc' := 0) (ms' := 0) rfl jm_MD_hasMonths_n jm_MD_hasMonths_f rfl rfl rfl rfl rfl rfl rfl (Nat.zero_le _) (Nat.zero_le _) ?_
                  show jx_W (jm_MD_hasMonths, _, _, _, _, _, _) _ 0 0 0 [some _] [] _
                  refine jr_aload rfl rfl ?_
                  refine jr_getR rfl rfl rfl rfl (Or.inl rfl) ?_
                  refine jr_aload rfl rfl ?_
                  refine jr_getI rfl rfl ?_
                  refine jr_iald (len := 2) rfl rfl hw.1 (by omega) ?_
                  refine jr_if_le rfl (fun m5MDhasMonths => ?_) (fun m5MDhasMonths => ?_)
                  · refine jr_ic rfl ?_
                    refine jr_zret rfl rfl rfl (Nat.zero_le _) (Nat.zero_le _) ?_
                    refine jr_if_eq rfl (fun _ => ?_) (fun z => absurd (by decide) z)
                    refine jr_ic rfl ?_
                    refine jr_iret rfl rfl (Nat.zero_le _) (Nat.zero_le _) ?_
                    first
                      | exact ⟨rfl, hRel0⟩
                      | (exfalso; omega)
                      | (exfalso; simp (disch := omega) only [Int32.lt_iff_toInt_lt, Int32.le_iff_toInt_le, ← Int32.toInt_inj, Int32.reduceToInt, nI_toInt] at c3 m2MDisIn m5MDisIn m5MDhasMonths; done)
                      | (exfalso; simp (disch := omega) only [Int32.lt_iff_toInt_lt, Int32.le_iff_toInt_le, ← Int32.toInt_inj, Int32.reduceToInt, nI_toInt] at c3 m2MDisIn m5MDisIn m5MDhasMonths; omega)
                  · refine jr_ic rfl ?_
                    refine jr_goto rfl ?_
                    refine jr_zret rfl rfl rfl (Nat.zero_le _) (Nat.zero_le _) ?_
                    refine jr_if_eq rfl (fun z => absurd z (by decide)) (fun _ => ?_)
                    refine jr_iload rfl rfl ?_
                    refine jr_ic rfl ?_
                    refine jr_icmp_ne rfl (fun z => absurd (by decide) z) (fun _ => ?_)
                    refine jr_aload rfl rfl ?_
                    refine jr_iload rfl rfl ?_
                    refine jr_cv1 (mc' := 0) (ms' := 0) rfl jm_MD_isPerson_n jm_MD_isPerson_f rfl rfl rfl rfl rfl rfl rfl (Nat.zero_le _) (Nat.zero_le _) ?_
                    show jx_W (jm_MD_isPerson, _, _, _, _, _, _) _ 0 0 0 [some _, some _] [] _
                    refine jr_iload rfl rfl ?_
                    refine jr_ic rfl ?_
                    refine jr_aload rfl rfl ?_
                    refine jr_cv0 (mc' := 0) (ms' := 0) rfl jm_MD_personMany_n jm_MD_personMany_f rfl rfl rfl rfl rfl rfl rfl (Nat.zero_le _) (Nat.zero_le _) ?_
                    show jx_W (jm_MD_personMany, _, _, _, _, _, _) _ 0 0 0 [some _] [] _
                    refine jr_aload rfl rfl ?_
                    refine jr_getR rfl rfl rfl rfl (Or.inl rfl) ?_
                    refine jr_aload rfl rfl ?_
                    refine jr_getI rfl rfl ?_
                    refine jr_iald (len := 2) rfl rfl hw.1 (by omega) ?_
                    refine jr_iret rfl rfl (Nat.zero_le _) (Nat.zero_le _) ?_
                    refine jr_ic rfl ?_
                    refine jr_isub rfl ?_
                    refine jr_cs3 (mc' := 0) (ms' := 0) rfl jm_MD_isIn_n jm_MD_isIn_f rfl rfl rfl rfl rfl (Nat.zero_le _) (Nat.zero_le _) ?_
                    show jx_W (jm_MD_isIn, _, _, _, _, _, _) _ 0 0 0 [some _, some _, some _] [] _
                    refine jr_iload rfl rfl ?_
                    refine jr_iload rfl rfl ?_
                    refine jr_icmp_lt rfl (fun m2MDisIn_2 => ?_) (fun m2MDisIn_2 => ?_)
                    · refine jr_ic rfl ?_
                      refine jr_zret rfl rfl rfl (Nat.zero_le _) (Nat.zero_le _) ?_
                      refine jr_zret rfl rfl rfl (Nat.zero_le _) (Nat.zero_le _) ?_
                      refine jr_if_ne rfl (fun z => absurd (by decide) z) (fun _ => ?_)
                      refine jr_ic rfl ?_
                      refine jr_iret rfl rfl (Nat.zero_le _) (Nat.zero_le _) ?_
                      first
                        | exact ⟨rfl, hRel0⟩
                        | (exfalso; omega)
                        | (exfalso; simp (disch := omega) only [Int32.lt_iff_toInt_lt, Int32.le_iff_toInt_le, ← Int32.toInt_inj, Int32.reduceToInt, nI_toInt] at c3 m2MDisIn m5MDisIn m5MDhasMonths m2MDisIn_2; done)
                        | (exfalso; simp (disch := omega) only [Int32.lt_iff_toInt_lt, Int32.le_iff_toInt_le, ← Int32.toInt_inj, Int32.reduceToInt, nI_toInt] at c3 m2MDisIn m5MDisIn m5MDhasMonths m2MDisIn_2; omega)
                    · refine jr_iload rfl rfl ?_
                      refine jr_iload rfl rfl ?_
                      refine jr_icmp_gt rfl (fun m5MDisIn_2 => ?_) (fun m5MDisIn_2 => ?_)
                      · refine jr_ic rfl ?_
                        refine jr_zret rfl rfl rfl (Nat.zero_le _) (Nat.zero_le _) ?_
                        refine jr_zret rfl rfl rfl (Nat.zero_le _) (Nat.zero_le _) ?_
                        refine jr_if_ne rfl (fun z => absurd (by decide) z) (fun _ => ?_)
                        refine jr_ic rfl ?_
                        refine jr_iret rfl rfl (Nat.zero_le _) (Nat.zero_le _) ?_
                        first
                          | exact ⟨rfl, hRel0⟩
                          | (exfalso; omega)
                          | (exfalso; simp (disch := omega) only [Int32.lt_iff_toInt_lt, Int32.le_iff_toInt_le, ← Int32.toInt_inj, Int32.reduceToInt, nI_toInt] at c3 m2MDisIn m5MDisIn m5MDhasMonths m2MDisIn_2 m5MDisIn_2; done)
                          | (exfalso; simp (disch := omega) only [Int32.lt_iff_toInt_lt, Int32.le_iff_toInt_le, ← Int32.toInt_inj, Int32.reduceToInt, nI_toInt] at c3 m2MDisIn m5MDisIn m5MDhasMonths m2MDisIn_2 m5MDisIn_2; omega)
                      · refine jr_ic rfl ?_
                        refine jr_goto rfl ?_
                        refine jr_zret rfl rfl rfl (Nat.zero_le _) (Nat.zero_le _) ?_
                        refine jr_zret rfl rfl rfl (Nat.zero_le _) (Nat.zero_le _) ?_
                        refine jr_if_ne rfl (fun _ => ?_) (fun z => absurd z (by decide))
                        refine jr_aload rfl rfl ?_
                        refine jr_cv0 (mc' := 0) (ms' := 0) rfl jm_MD_keepHead_n jm_MD_keepHead_f rfl rfl rfl rfl rfl rfl rfl (Nat.zero_le _) (Nat.zero_le _) ?_
                        first
                          | (exfalso; omega)
                          | (exfalso; simp (disch := omega) only [Int32.lt_iff_toInt_lt, Int32.le_iff_toInt_le, ← Int32.toInt_inj, Int32.reduceToInt, nI_toInt] at c3 m2MDisIn m5MDisIn m5MDhasMonths m2MDisIn_2 m5MDisIn_2; done)
                          | (exfalso; simp (disch := omega) only [Int32.lt_iff_toInt_lt, Int32.le_iff_toInt_le, ← Int32.toInt_inj, Int32.reduceToInt, nI_toInt] at c3 m2MDisIn m5MDisIn m5MDhasMonths m2MDisIn_2 m5MDisIn_2; omega)
            · refine jr_iload rfl rfl ?_
              refine jr_if_lt rfl (fun c5 => ?_) (fun c5 => ?_)
              · refine jr_ic rfl ?_
                refine jr_iret rfl rfl (Nat.zero_le _) (Nat.zero_le _) ?_
                show jx_W (jm_MD_ahead, d + 40, 0, 0, false, 1, _) _ 0 0 0 [some _, some _, some _, some _, none, none] [] _
                refine jr_iload rfl rfl ?_
                refine jr_ic rfl ?_
                refine jr_ic rfl ?_
                refine jr_cs3 (mc' := 0) (ms' := 0) rfl jm_MD_isIn_n jm_MD_isIn_f rfl rfl rfl rfl rfl (Nat.zero_le _) (Nat.zero_le _) ?_
                show jx_W (jm_MD_isIn, _, _, _, _, _, _) _ 0 0 0 [some _, some _, some _] [] _
                refine jr_iload rfl rfl ?_
                refine jr_iload rfl rfl ?_
                refine jr_icmp_lt rfl (fun m2MDisIn => ?_) (fun m2MDisIn => ?_)
                · refine jr_ic rfl ?_
                  refine jr_zret rfl rfl rfl (Nat.zero_le _) (Nat.zero_le _) ?_
                  refine jr_if_eq rfl (fun _ => ?_) (fun z => absurd (by decide) z)
                  refine jr_ic rfl ?_
                  refine jr_iret rfl rfl (Nat.zero_le _) (Nat.zero_le _) ?_
                  first
                    | exact ⟨rfl, hRel0⟩
                    | (exfalso; omega)
                    | (exfalso; simp (disch := omega) only [Int32.lt_iff_toInt_lt, Int32.le_iff_toInt_le, ← Int32.toInt_inj, Int32.reduceToInt, nI_toInt] at c3 c5 m2MDisIn; done)
                    | (exfalso; simp (disch := omega) only [Int32.lt_iff_toInt_lt, Int32.le_iff_toInt_le, ← Int32.toInt_inj, Int32.reduceToInt, nI_toInt] at c3 c5 m2MDisIn; omega)
                · refine jr_iload rfl rfl ?_
                  refine jr_iload rfl rfl ?_
                  refine jr_icmp_gt rfl (fun m5MDisIn => ?_) (fun m5MDisIn => ?_)
                  · refine jr_ic rfl ?_
                    refine jr_zret rfl rfl rfl (Nat.zero_le _) (Nat.zero_le _) ?_
                    refine jr_if_eq rfl (fun _ => ?_) (fun z => absurd (by decide) z)
                    refine jr_ic rfl ?_
                    refine jr_iret rfl rfl (Nat.zero_le _) (Nat.zero_le _) ?_
                    first
                      | exact ⟨rfl, hRel0⟩
                      | (exfalso; omega)
                      | (exfalso; simp (disch := omega) only [Int32.lt_iff_toInt_lt, Int32.le_iff_toInt_le, ← Int32.toInt_inj, Int32.reduceToInt, nI_toInt] at c3 c5 m2MDisIn m5MDisIn; done)
                      | (exfalso; simp (disch := omega) only [Int32.lt_iff_toInt_lt, Int32.le_iff_toInt_le, ← Int32.toInt_inj, Int32.reduceToInt, nI_toInt] at c3 c5 m2MDisIn m5MDisIn; omega)
                  · refine jr_ic rfl ?_
                    refine jr_goto rfl ?_
                    refine jr_zret rfl rfl rfl (Nat.zero_le _) (Nat.zero_le _) ?_
                    refine jr_if_eq rfl (fun z => absurd z (by decide)) (fun _ => ?_)
                    refine jr_iload rfl rfl ?_
                    refine jr_ic rfl ?_
                    refine jr_ic rfl ?_
                    refine jr_cs3 (mc' := 0) (ms' := 0) rfl jm_MD_isIn_n jm_MD_isIn_f rfl rfl rfl rfl rfl (Nat.zero_le _) (Nat.zero_le _) ?_
                    show jx_W (jm_MD_isIn, _, _, _, _, _, _) _ 0 0 0 [some _, some _, some _] [] _
                    refine jr_iload rfl rfl ?_
                    refine jr_iload rfl rfl ?_
                    refine jr_icmp_lt rfl (fun z => absurd z (by decide)) (fun _ => ?_)
                    refine jr_iload rfl rfl ?_
                    refine jr_iload rfl rfl ?_
                    refine jr_icmp_gt rfl (fun z => absurd z (by decide)) (fun _ => ?_)
                    refine jr_ic rfl ?_
                    refine jr_goto rfl ?_
                    refine jr_zret rfl rfl rfl (Nat.zero_le _) (Nat.zero_le _) ?_
                    refine jr_if_eq rfl (fun z => absurd z (by decide)) (fun _ => ?_)
                    refine jr_aload rfl rfl ?_
                    refine jr_cv0 (mc' := 0) (ms' := 0) rfl jm_MD_hasMonths_n jm_MD_hasMonths_f rfl rfl rfl rfl rfl rfl rfl (Nat.zero_le _) (Nat.zero_le _) ?_
                    show jx_W (jm_MD_hasMonths, _, _, _, _, _, _) _ 0 0 0 [some _] [] _
                    refine jr_aload rfl rfl ?_
                    refine jr_getR rfl rfl rfl rfl (Or.inl rfl) ?_
                    refine jr_aload rfl rfl ?_
                    refine jr_getI rfl rfl ?_
                    refine jr_iald (len := 2) rfl rfl hw.1 (by omega) ?_
                    refine jr_if_le rfl (fun m5MDhasMonths => ?_) (fun m5MDhasMonths => ?_)
                    · refine jr_ic rfl ?_
                      refine jr_zret rfl rfl rfl (Nat.zero_le _) (Nat.zero_le _) ?_
                      refine jr_if_eq rfl (fun _ => ?_) (fun z => absurd (by decide) z)
                      refine jr_ic rfl ?_
                      refine jr_iret rfl rfl (Nat.zero_le _) (Nat.zero_le _) ?_
                      first
                        | exact ⟨rfl, hRel0⟩
                        | (exfalso; omega)
                        | (exfalso; simp (disch := omega) only [Int32.lt_iff_toInt_lt, Int32.le_iff_toInt_le, ← Int32.toInt_inj, Int32.reduceToInt, nI_toInt] at c3 c5 m2MDisIn m5MDisIn m5MDhasMonths; done)
                        | (exfalso; simp (disch := omega) only [Int32.lt_iff_toInt_lt, Int32.le_iff_toInt_le, ← Int32.toInt_inj, Int32.reduceToInt, nI_toInt] at c3 c5 m2MDisIn m5MDisIn m5MDhasMonths; omega)
                    · refine jr_ic rfl ?_
                      refine jr_goto rfl ?_
                      refine jr_zret rfl rfl rfl (Nat.zero_le _) (Nat.zero_le _) ?_
                      refine jr_if_eq rfl (fun z => absurd z (by decide)) (fun _ => ?_)
                      refine jr_iload rfl rfl ?_
                      refine jr_ic rfl ?_
                      refine jr_icmp_ne rfl (fun z => absurd (by decide) z) (fun _ => ?_)
                      refine jr_aload rfl rfl ?_
                      refine jr_iload rfl rfl ?_
                      refine jr_cv1 (mc' := 0) (ms' := 0) rfl jm_MD_isPerson_n jm_MD_isPerson_f rfl rfl rfl rfl rfl rfl rfl (Nat.zero_le _) (Nat.zero_le _) ?_
                      show jx_W (jm_MD_isPerson, _, _, _, _, _, _) _ 0 0 0 [some _, some _] [] _
                      refine jr_iload rfl rfl ?_
                      refine jr_ic rfl ?_
                      refine jr_aload rfl rfl ?_
                      refine jr_cv0 (mc' := 0) (ms' := 0) rfl jm_MD_personMany_n jm_MD_personMany_f rfl rfl rfl rfl rfl rfl rfl (Nat.zero_le _) (Nat.zero_le _) ?_
                      show jx_W (jm_MD_personMany, _, _, _, _, _, _) _ 0 0 0 [some _] [] _
                      refine jr_aload rfl rfl ?_
                      refine jr_getR rfl rfl rfl rfl (Or.inl rfl) ?_
                      refine jr_aload rfl rfl ?_
                      refine jr_getI rfl rfl ?_
                      refine jr_iald (len := 2) rfl rfl hw.1 (by omega) ?_
                      refine jr_iret rfl rfl (Nat.zero_le _) (Nat.zero_le _) ?_
                      refine jr_ic rfl ?_
                      refine jr_isub rfl ?_
                      refine jr_cs3 (mc' := 0) (ms' := 0) rfl jm_MD_isIn_n jm_MD_isIn_f rfl rfl rfl rfl rfl (Nat.zero_le _) (Nat.zero_le _) ?_
                      show jx_W (jm_MD_isIn, _, _, _, _, _, _) _ 0 0 0 [some _, some _, some _] [] _
                      refine jr_iload rfl rfl ?_
                      refine jr_iload rfl rfl ?_
                      refine jr_icmp_lt rfl (fun m2MDisIn_2 => ?_) (fun m2MDisIn_2 => ?_)
                      · refine jr_ic rfl ?_
                        refine jr_zret rfl rfl rfl (Nat.zero_le _) (Nat.zero_le _) ?_
                        refine jr_zret rfl rfl rfl (Nat.zero_le _) (Nat.zero_le _) ?_
                        refine jr_if_ne rfl (fun z => absurd (by decide) z) (fun _ => ?_)
                        refine jr_ic rfl ?_
                        refine jr_iret rfl rfl (Nat.zero_le _) (Nat.zero_le _) ?_
                        first
                          | exact ⟨rfl, hRel0⟩
                          | (exfalso; omega)
                          | (exfalso; simp (disch := omega) only [Int32.lt_iff_toInt_lt, Int32.le_iff_toInt_le, ← Int32.toInt_inj, Int32.reduceToInt, nI_toInt] at c3 c5 m2MDisIn m5MDisIn m5MDhasMonths m2MDisIn_2; done)
                          | (exfalso; simp (disch := omega) only [Int32.lt_iff_toInt_lt, Int32.le_iff_toInt_le, ← Int32.toInt_inj, Int32.reduceToInt, nI_toInt] at c3 c5 m2MDisIn m5MDisIn m5MDhasMonths m2MDisIn_2; omega)
                      · refine jr_iload rfl rfl ?_
                        refine jr_iload rfl rfl ?_
                        refine jr_icmp_gt rfl (fun m5MDisIn_2 => ?_) (fun m5MDisIn_2 => ?_)
                        · refine jr_ic rfl ?_
                          refine jr_zret rfl rfl rfl (Nat.zero_le _) (Nat.zero_le _) ?_
                          refine jr_zret rfl rfl rfl (Nat.zero_le _) (Nat.zero_le _) ?_
                          refine jr_if_ne rfl (fun z => absurd (by decide) z) (fun _ => ?_)
                          refine jr_ic rfl ?_
                          refine jr_iret rfl rfl (Nat.zero_le _) (Nat.zero_le _) ?_
                          first
                            | exact ⟨rfl, hRel0⟩
                            | (exfalso; omega)
                            | (exfalso; simp (disch := omega) only [Int32.lt_iff_toInt_lt, Int32.le_iff_toInt_le, ← Int32.toInt_inj, Int32.reduceToInt, nI_toInt] at c3 c5 m2MDisIn m5MDisIn m5MDhasMonths m2MDisIn_2 m5MDisIn_2; done)
                            | (exfalso; simp (disch := omega) only [Int32.lt_iff_toInt_lt, Int32.le_iff_toInt_le, ← Int32.toInt_inj, Int32.reduceToInt, nI_toInt] at c3 c5 m2MDisIn m5MDisIn m5MDhasMonths m2MDisIn_2 m5MDisIn_2; omega)
                        · refine jr_ic rfl ?_
                          refine jr_goto rfl ?_
                          refine jr_zret rfl rfl rfl (Nat.zero_le _) (Nat.zero_le _) ?_
                          refine jr_zret rfl rfl rfl (Nat.zero_le _) (Nat.zero_le _) ?_
                          refine jr_if_ne rfl (fun _ => ?_) (fun z => absurd z (by decide))
                          refine jr_aload rfl rfl ?_
                          refine jr_cv0 (mc' := 0) (ms' := 0) rfl jm_MD_keepHead_n jm_MD_keepHead_f rfl rfl rfl rfl rfl rfl rfl (Nat.zero_le _) (Nat.zero_le _) ?_
                          first
                            | (exfalso; omega)
                            | (exfalso; simp (disch := omega) only [Int32.lt_iff_toInt_lt, Int32.le_iff_toInt_le, ← Int32.toInt_inj, Int32.reduceToInt, nI_toInt] at c3 c5 m2MDisIn m5MDisIn m5MDhasMonths m2MDisIn_2 m5MDisIn_2; done)
                            | (exfalso; simp (disch := omega) only [Int32.lt_iff_toInt_lt, Int32.le_iff_toInt_le, ← Int32.toInt_inj, Int32.reduceToInt, nI_toInt] at c3 c5 m2MDisIn m5MDisIn m5MDhasMonths m2MDisIn_2 m5MDisIn_2; omega)
              · refine jr_iload rfl rfl ?_
                refine jr_ic rfl ?_
                refine jr_icmp_le rfl (fun c8 => ?_) (fun c8 => ?_)
                · refine jr_iload rfl rfl ?_
                  refine jr_tsw rfl ?_
                  refine ⟨fun z => absurd z (by decide), fun _ => ?_⟩
                  refine ⟨fun z => absurd z (by decide), fun _ => ?_⟩
                  refine ⟨fun _ => ?_, fun z => absurd (by decide) z⟩
                  refine jr_aload rfl rfl ?_
                  refine jr_getM rfl rfl rfl rfl hto ?_
                  refine jr_iload rfl rfl ?_
                  refine jr_cv1 (mc' := 0) (ms' := 0) rfl jm_Rep_hasPerson_n jm_Rep_hasPerson_f rfl rfl rfl rfl rfl rfl rfl (Nat.zero_le _) (Nat.zero_le _) ?_
                  show jx_W (jm_Rep_hasPerson, _, _, _, _, _, _) _ 0 0 0 [some _, some _] [] _
                  refine jr_iload rfl rfl ?_
                  refine jr_if_lt rfl (fun c1RephasPerson => ?_) (fun c1RephasPerson => ?_)
                  · refine jr_ic rfl ?_
                    refine jr_zret rfl rfl rfl (Nat.zero_le _) (Nat.zero_le _) ?_
                    refine jr_if_eq rfl (fun _ => ?_) (fun z => absurd (by decide) z)
                    refine jr_ic rfl ?_
                    refine jr_iret rfl rfl (Nat.zero_le _) (Nat.zero_le _) ?_
                    show jx_W (jm_MD_ahead, d + 40, 0, 0, false, 1, _) _ 0 0 0 [some _, some _, some _, some _, none, none] [] _
                    refine jr_iload rfl rfl ?_
                    refine jr_ic rfl ?_
                    refine jr_ic rfl ?_
                    refine jr_cs3 (mc' := 0) (ms' := 0) rfl jm_MD_isIn_n jm_MD_isIn_f rfl rfl rfl rfl rfl (Nat.zero_le _) (Nat.zero_le _) ?_
                    show jx_W (jm_MD_isIn, _, _, _, _, _, _) _ 0 0 0 [some _, some _, some _] [] _
                    refine jr_iload rfl rfl ?_
                    refine jr_iload rfl rfl ?_
                    refine jr_icmp_lt rfl (fun m2MDisIn => ?_) (fun m2MDisIn => ?_)
                    · refine jr_ic rfl ?_
                      refine jr_zret rfl rfl rfl (Nat.zero_le _) (Nat.zero_le _) ?_
                      refine jr_if_eq rfl (fun _ => ?_) (fun z => absurd (by decide) z)
                      refine jr_ic rfl ?_
                      refine jr_iret rfl rfl (Nat.zero_le _) (Nat.zero_le _) ?_
                      first
                        | exact ⟨rfl, hRel0⟩
                        | (exfalso; omega)
                        | (exfalso; simp (disch := omega) only [Int32.lt_iff_toInt_lt, Int32.le_iff_toInt_le, ← Int32.toInt_inj, Int32.reduceToInt, nI_toInt] at c3 c5 c8 c1RephasPerson m2MDisIn; done)
                        | (exfalso; simp (disch := omega) only [Int32.lt_iff_toInt_lt, Int32.le_iff_toInt_le, ← Int32.toInt_inj, Int32.reduceToInt, nI_toInt] at c3 c5 c8 c1RephasPerson m2MDisIn; omega)
                    · refine jr_iload rfl rfl ?_
                      refine jr_iload rfl rfl ?_
                      refine jr_icmp_gt rfl (fun m5MDisIn => ?_) (fun m5MDisIn => ?_)
                      · refine jr_ic rfl ?_
                        refine jr_zret rfl rfl rfl (Nat.zero_le _) (Nat.zero_le _) ?_
                        refine jr_if_eq rfl (fun _ => ?_) (fun z => absurd (by decide) z)
                        refine jr_ic rfl ?_
                        refine jr_iret rfl rfl (Nat.zero_le _) (Nat.zero_le _) ?_
                        first
                          | exact ⟨rfl, hRel0⟩
                          | (exfalso; omega)
                          | (exfalso; simp (disch := omega) only [Int32.lt_iff_toInt_lt, Int32.le_iff_toInt_le, ← Int32.toInt_inj, Int32.reduceToInt, nI_toInt] at c3 c5 c8 c1RephasPerson m2MDisIn m5MDisIn; done)
                          | (exfalso; simp (disch := omega) only [Int32.lt_iff_toInt_lt, Int32.le_iff_toInt_le, ← Int32.toInt_inj, Int32.reduceToInt, nI_toInt] at c3 c5 c8 c1RephasPerson m2MDisIn m5MDisIn; omega)
                      · refine jr_ic rfl ?_
                        refine jr_goto rfl ?_
                        refine jr_zret rfl rfl rfl (Nat.zero_le _) (Nat.zero_le _) ?_
                        refine jr_if_eq rfl (fun z => absurd z (by decide)) (fun _ => ?_)
                        refine jr_iload rfl rfl ?_
                        refine jr_ic rfl ?_
                        refine jr_ic rfl ?_
                        refine jr_cs3 (mc' := 0) (ms' := 0) rfl jm_MD_isIn_n jm_MD_isIn_f rfl rfl rfl rfl rfl (Nat.zero_le _) (Nat.zero_le _) ?_
                        show jx_W (jm_MD_isIn, _, _, _, _, _, _) _ 0 0 0 [some _, some _, some _] [] _
                        refine jr_iload rfl rfl ?_
                        refine jr_iload rfl rfl ?_
                        refine jr_icmp_lt rfl (fun z => absurd z (by decide)) (fun _ => ?_)
                        refine jr_iload rfl rfl ?_
                        refine jr_iload rfl rfl ?_
                        refine jr_icmp_gt rfl (fun z => absurd z (by decide)) (fun _ => ?_)
                        refine jr_ic rfl ?_
                        refine jr_goto rfl ?_
                        refine jr_zret rfl rfl rfl (Nat.zero_le _) (Nat.zero_le _) ?_
                        refine jr_if_eq rfl (fun z => absurd z (by decide)) (fun _ => ?_)
                        refine jr_aload rfl rfl ?_
                        refine jr_cv0 (mc' := 0) (ms' := 0) rfl jm_MD_hasMonths_n jm_MD_hasMonths_f rfl rfl rfl rfl rfl rfl rfl (Nat.zero_le _) (Nat.zero_le _) ?_
                        show jx_W (jm_MD_hasMonths, _, _, _, _, _, _) _ 0 0 0 [some _] [] _
                        refine jr_aload rfl rfl ?_
                        refine jr_getR rfl rfl rfl rfl (Or.inl rfl) ?_
                        refine jr_aload rfl rfl ?_
                        refine jr_getI rfl rfl ?_
                        refine jr_iald (len := 2) rfl rfl hw.1 (by omega) ?_
                        refine jr_if_le rfl (fun m5MDhasMonths => ?_) (fun m5MDhasMonths => ?_)
                        · refine jr_ic rfl ?_
                          refine jr_zret rfl rfl rfl (Nat.zero_le _) (Nat.zero_le _) ?_
                          refine jr_if_eq rfl (fun _ => ?_) (fun z => absurd (by decide) z)
                          refine jr_ic rfl ?_
                          refine jr_iret rfl rfl (Nat.zero_le _) (Nat.zero_le _) ?_
                          first
                            | exact ⟨rfl, hRel0⟩
                            | (exfalso; omega)
                            | (exfalso; simp (disch := omega) only [Int32.lt_iff_toInt_lt, Int32.le_iff_toInt_le, ← Int32.toInt_inj, Int32.reduceToInt, nI_toInt] at c3 c5 c8 c1RephasPerson m2MDisIn m5MDisIn m5MDhasMonths; done)
                            | (exfalso; simp (disch := omega) only [Int32.lt_iff_toInt_lt, Int32.le_iff_toInt_le, ← Int32.toInt_inj, Int32.reduceToInt, nI_toInt] at c3 c5 c8 c1RephasPerson m2MDisIn m5MDisIn m5MDhasMonths; omega)
                        · refine jr_ic rfl ?_
                          refine jr_goto rfl ?_
                          refine jr_zret rfl rfl rfl (Nat.zero_le _) (Nat.zero_le _) ?_
                          refine jr_if_eq rfl (fun z => absurd z (by decide)) (fun _ => ?_)
                          refine jr_iload rfl rfl ?_
                          refine jr_ic rfl ?_
                          refine jr_icmp_ne rfl (fun z => absurd (by decide) z) (fun _ => ?_)
                          refine jr_aload rfl rfl ?_
                          refine jr_iload rfl rfl ?_
                          refine jr_cv1 (mc' := 0) (ms' := 0) rfl jm_MD_isPerson_n jm_MD_isPerson_f rfl rfl rfl rfl rfl rfl rfl (Nat.zero_le _) (Nat.zero_le _) ?_
                          show jx_W (jm_MD_isPerson, _, _, _, _, _, _) _ 0 0 0 [some _, some _] [] _
                          refine jr_iload rfl rfl ?_
                          refine jr_ic rfl ?_
                          refine jr_aload rfl rfl ?_
                          refine jr_cv0 (mc' := 0) (ms' := 0) rfl jm_MD_personMany_n jm_MD_personMany_f rfl rfl rfl rfl rfl rfl rfl (Nat.zero_le _) (Nat.zero_le _) ?_
                          show jx_W (jm_MD_personMany, _, _, _, _, _, _) _ 0 0 0 [some _] [] _
                          refine jr_aload rfl rfl ?_
                          refine jr_getR rfl rfl rfl rfl (Or.inl rfl) ?_
                          refine jr_aload rfl rfl ?_
                          refine jr_getI rfl rfl ?_
                          refine jr_iald (len := 2) rfl rfl hw.1 (by omega) ?_
                          refine jr_iret rfl rfl (Nat.zero_le _) (Nat.zero_le _) ?_
                          refine jr_ic rfl ?_
                          refine jr_isub rfl ?_
                          refine jr_cs3 (mc' := 0) (ms' := 0) rfl jm_MD_isIn_n jm_MD_isIn_f rfl rfl rfl rfl rfl (Nat.zero_le _) (Nat.zero_le _) ?_
                          show jx_W (jm_MD_isIn, _, _, _, _, _, _) _ 0 0 0 [some _, some _, some _] [] _
                          refine jr_iload rfl rfl ?_
                          refine jr_iload rfl rfl ?_
                          refine jr_icmp_lt rfl (fun m2MDisIn_2 => ?_) (fun m2MDisIn_2 => ?_)
                          · refine jr_ic rfl ?_
                            refine jr_zret rfl rfl rfl (Nat.zero_le _) (Nat.zero_le _) ?_
                            refine jr_zret rfl rfl rfl (Nat.zero_le _) (Nat.zero_le _) ?_
                            refine jr_if_ne rfl (fun z => absurd (by decide) z) (fun _ => ?_)
                            refine jr_ic rfl ?_
                            refine jr_iret rfl rfl (Nat.zero_le _) (Nat.zero_le _) ?_
                            first
                              | exact ⟨rfl, hRel0⟩
                              | (exfalso; omega)
                              | (exfalso; simp (disch := omega) only [Int32.lt_iff_toInt_lt, Int32.le_iff_toInt_le, ← Int32.toInt_inj, Int32.reduceToInt, nI_toInt] at c3 c5 c8 c1RephasPerson m2MDisIn m5MDisIn m5MDhasMonths m2MDisIn_2; done)
                              | (exfalso; simp (disch := omega) only [Int32.lt_iff_toInt_lt, Int32.le_iff_toInt_le, ← Int32.toInt_inj, Int32.reduceToInt, nI_toInt] at c3 c5 c8 c1RephasPerson m2MDisIn m5MDisIn m5MDhasMonths m2MDisIn_2; omega)
                          · refine jr_iload rfl rfl ?_
                            refine jr_iload rfl rfl ?_
                            refine jr_icmp_gt rfl (fun m5MDisIn_2 => ?_) (fun m5MDisIn_2 => ?_)
                            · refine jr_ic rfl ?_
                              refine jr_zret rfl rfl rfl (Nat.zero_le _) (Nat.zero_le _) ?_
                              refine jr_zret rfl rfl rfl (Nat.zero_le _) (Nat.zero_le _) ?_
                              refine jr_if_ne rfl (fun z => absurd (by decide) z) (fun _ => ?_)
                              refine jr_ic rfl ?_
                              refine jr_iret rfl rfl (Nat.zero_le _) (Nat.zero_le _) ?_
                              first
                                | exact ⟨rfl, hRel0⟩
                                | (exfalso; omega)
                                | (exfalso; simp (disch := omega) only [Int32.lt_iff_toInt_lt, Int32.le_iff_toInt_le, ← Int32.toInt_inj, Int32.reduceToInt, nI_toInt] at c3 c5 c8 c1RephasPerson m2MDisIn m5MDisIn m5MDhasMonths m2MDisIn_2 m5MDisIn_2; done)
                                | (exfalso; simp (disch := omega) only [Int32.lt_iff_toInt_lt, Int32.le_iff_toInt_le, ← Int32.toInt_inj, Int32.reduceToInt, nI_toInt] at c3 c5 c8 c1RephasPerson m2MDisIn m5MDisIn m5MDhasMonths m2MDisIn_2 m5MDisIn_2; omega)
                            · refine jr_ic rfl ?_
                              refine jr_goto rfl ?_
                              refine jr_zret rfl rfl rfl (Nat.zero_le _) (Nat.zero_le _) ?_
                              refine jr_zret rfl rfl rfl (Nat.zero_le _) (Nat.zero_le _) ?_
                              refine jr_if_ne rfl (fun _ => ?_) (fun z => absurd z (by decide))
                              refine jr_aload rfl rfl ?_
                              refine jr_cv0 (mc' := 0) (ms' := 0) rfl jm_MD_keepHead_n jm_MD_keepHead_f rfl rfl rfl rfl rfl rfl rfl (Nat.zero_le _) (Nat.zero_le _) ?_
                              first
                                | (exfalso; omega)
                                | (exfalso; simp (disch := omega) only [Int32.lt_iff_toInt_lt, Int32.le_iff_toInt_le, ← Int32.toInt_inj, Int32.reduceToInt, nI_toInt] at c3 c5 c8 c1RephasPerson m2MDisIn m5MDisIn m5MDhasMonths m2MDisIn_2 m5MDisIn_2; done)
                                | (exfalso; simp (disch := omega) only [Int32.lt_iff_toInt_lt, Int32.le_iff_toInt_le, ← Int32.toInt_inj, Int32.reduceToInt, nI_toInt] at c3 c5 c8 c1RephasPerson m2MDisIn m5MDisIn m5MDhasMonths m2MDisIn_2 m5MDisIn_2; omega)
                  · refine jr_iload rfl rfl ?_
                    refine jr_aload rfl rfl ?_
                    refine jr_getI rfl rfl ?_
                    refine jr_icmp_ge rfl (fun c5RephasPerson => ?_) (fun c5RephasPerson => ?_)
                    · refine jr_ic rfl ?_
                      refine jr_zret rfl rfl rfl (Nat.zero_le _) (Nat.zero_le _) ?_
                      refine jr_if_eq rfl (fun _ => ?_) (fun z => absurd (by decide) z)
                      refine jr_ic rfl ?_
                      refine jr_iret rfl rfl (Nat.zero_le _) (Nat.zero_le _) ?_
                      show jx_W (jm_MD_ahead, d + 40, 0, 0, false, 1, _) _ 0 0 0 [some _, some _, some _, some _, none, none] [] _
                      refine jr_iload rfl rfl ?_
                      refine jr_ic rfl ?_
                      refine jr_ic rfl ?_
                      refine jr_cs3 (mc' := 0) (ms' := 0) rfl jm_MD_isIn_n jm_MD_isIn_f rfl rfl rfl rfl rfl (Nat.zero_le _) (Nat.zero_le _) ?_
                      show jx_W (jm_MD_isIn, _, _, _, _, _, _) _ 0 0 0 [some _, some _, some _] [] _
                      refine jr_iload rfl rfl ?_
                      refine jr_iload rfl rfl ?_
                      refine jr_icmp_lt rfl (fun m2MDisIn => ?_) (fun m2MDisIn => ?_)
                      · refine jr_ic rfl ?_
                        refine jr_zret rfl rfl rfl (Nat.zero_le _) (Nat.zero_le _) ?_
                        refine jr_if_eq rfl (fun _ => ?_) (fun z => absurd (by decide) z)
                        refine jr_ic rfl ?_
                        refine jr_iret rfl rfl (Nat.zero_le _) (Nat.zero_le _) ?_
                        first
                          | exact ⟨rfl, hRel0⟩
                          | (exfalso; omega)
                          | (exfalso; simp (disch := omega) only [Int32.lt_iff_toInt_lt, Int32.le_iff_toInt_le, ← Int32.toInt_inj, Int32.reduceToInt, nI_toInt] at c3 c5 c8 c1RephasPerson c5RephasPerson m2MDisIn; done)
                          | (exfalso; simp (disch := omega) only [Int32.lt_iff_toInt_lt, Int32.le_iff_toInt_le, ← Int32.toInt_inj, Int32.reduceToInt, nI_toInt] at c3 c5 c8 c1RephasPerson c5RephasPerson m2MDisIn; omega)
                      · refine jr_iload rfl rfl ?_
                        refine jr_iload rfl rfl ?_
                        refine jr_icmp_gt rfl (fun m5MDisIn => ?_) (fun m5MDisIn => ?_)
                        · refine jr_ic rfl ?_
                          refine jr_zret rfl rfl rfl (Nat.zero_le _) (Nat.zero_le _) ?_
                          refine jr_if_eq rfl (fun _ => ?_) (fun z => absurd (by decide) z)
                          refine jr_ic rfl ?_
                          refine jr_iret rfl rfl (Nat.zero_le _) (Nat.zero_le _) ?_
                          first
                            | exact ⟨rfl, hRel0⟩
                            | (exfalso; omega)
                            | (exfalso; simp (disch := omega) only [Int32.lt_iff_toInt_lt, Int32.le_iff_toInt_le, ← Int32.toInt_inj, Int32.reduceToInt, nI_toInt] at c3 c5 c8 c1RephasPerson c5RephasPerson m2MDisIn m5MDisIn; done)
                            | (exfalso; simp (disch := omega) only [Int32.lt_iff_toInt_lt, Int32.le_iff_toInt_le, ← Int32.toInt_inj, Int32.reduceToInt, nI_toInt] at c3 c5 c8 c1RephasPerson c5RephasPerson m2MDisIn m5MDisIn; omega)
                        · refine jr_ic rfl ?_
                          refine jr_goto rfl ?_
                          refine jr_zret rfl rfl rfl (Nat.zero_le _) (Nat.zero_le _) ?_
                          refine jr_if_eq rfl (fun z => absurd z (by decide)) (fun _ => ?_)
                          refine jr_iload rfl rfl ?_
                          refine jr_ic rfl ?_
                          refine jr_ic rfl ?_
                          refine jr_cs3 (mc' := 0) (ms' := 0) rfl jm_MD_isIn_n jm_MD_isIn_f rfl rfl rfl rfl rfl (Nat.zero_le _) (Nat.zero_le _) ?_
                          show jx_W (jm_MD_isIn, _, _, _, _, _, _) _ 0 0 0 [some _, some _, some _] [] _
                          refine jr_iload rfl rfl ?_
                          refine jr_iload rfl rfl ?_
                          refine jr_icmp_lt rfl (fun z => absurd z (by decide)) (fun _ => ?_)
                          refine jr_iload rfl rfl ?_
                          refine jr_iload rfl rfl ?_
                          refine jr_icmp_gt rfl (fun z => absurd z (by decide)) (fun _ => ?_)
                          refine jr_ic rfl ?_
                          refine jr_goto rfl ?_
                          refine jr_zret rfl rfl rfl (Nat.zero_le _) (Nat.zero_le _) ?_
                          refine jr_if_eq rfl (fun z => absurd z (by decide)) (fun _ => ?_)
                          refine jr_aload rfl rfl ?_
                          refine jr_cv0 (mc' := 0) (ms' := 0) rfl jm_MD_hasMonths_n jm_MD_hasMonths_f rfl rfl rfl rfl rfl rfl rfl (Nat.zero_le _) (Nat.zero_le _) ?_
                          show jx_W (jm_MD_hasMonths, _, _, _, _, _, _) _ 0 0 0 [some _] [] _
                          refine jr_aload rfl rfl ?_
                          refine jr_getR rfl rfl rfl rfl (Or.inl rfl) ?_
                          refine jr_aload rfl rfl ?_
                          refine jr_getI rfl rfl ?_
                          refine jr_iald (len := 2) rfl rfl hw.1 (by omega) ?_
                          refine jr_if_le rfl (fun m5MDhasMonths => ?_) (fun m5MDhasMonths => ?_)
                          · refine jr_ic rfl ?_
                            refine jr_zret rfl rfl rfl (Nat.zero_le _) (Nat.zero_le _) ?_
                            refine jr_if_eq rfl (fun _ => ?_) (fun z => absurd (by decide) z)
                            refine jr_ic rfl ?_
                            refine jr_iret rfl rfl (Nat.zero_le _) (Nat.zero_le _) ?_
                            first
                              | exact ⟨rfl, hRel0⟩
                              | (exfalso; omega)
                              | (exfalso; simp (disch := omega) only [Int32.lt_iff_toInt_lt, Int32.le_iff_toInt_le, ← Int32.toInt_inj, Int32.reduceToInt, nI_toInt] at c3 c5 c8 c1RephasPerson c5RephasPerson m2MDisIn m5MDisIn m5MDhasMonths; done)
                              | (exfalso; simp (disch := omega) only [Int32.lt_iff_toInt_lt, Int32.le_iff_toInt_le, ← Int32.toInt_inj, Int32.reduceToInt, nI_toInt] at c3 c5 c8 c1RephasPerson c5RephasPerson m2MDisIn m5MDisIn m5MDhasMonths; omega)
                          · refine jr_ic rfl ?_
                            refine jr_goto rfl ?_
                            refine jr_zret rfl rfl rfl (Nat.zero_le _) (Nat.zero_le _) ?_
                            refine jr_if_eq rfl (fun z => absurd z (by decide)) (fun _ => ?_)
                            refine jr_iload rfl rfl ?_
                            refine jr_ic rfl ?_
                            refine jr_icmp_ne rfl (fun z => absurd (by decide) z) (fun _ => ?_)
                            refine jr_aload rfl rfl ?_
                            refine jr_iload rfl rfl ?_
                            refine jr_cv1 (mc' := 0) (ms' := 0) rfl jm_MD_isPerson_n jm_MD_isPerson_f rfl rfl rfl rfl rfl rfl rfl (Nat.zero_le _) (Nat.zero_le _) ?_
                            show jx_W (jm_MD_isPerson, _, _, _, _, _, _) _ 0 0 0 [some _, some _] [] _
                            refine jr_iload rfl rfl ?_
                            refine jr_ic rfl ?_
                            refine jr_aload rfl rfl ?_
                            refine jr_cv0 (mc' := 0) (ms' := 0) rfl jm_MD_personMany_n jm_MD_personMany_f rfl rfl rfl rfl rfl rfl rfl (Nat.zero_le _) (Nat.zero_le _) ?_
                            show jx_W (jm_MD_personMany, _, _, _, _, _, _) _ 0 0 0 [some _] [] _
                            refine jr_aload rfl rfl ?_
                            refine jr_getR rfl rfl rfl rfl (Or.inl rfl) ?_
                            refine jr_aload rfl rfl ?_
                            refine jr_getI rfl rfl ?_
                            refine jr_iald (len := 2) rfl rfl hw.1 (by omega) ?_
                            refine jr_iret rfl rfl (Nat.zero_le _) (Nat.zero_le _) ?_
                            refine jr_ic rfl ?_
                            refine jr_isub rfl ?_
                            refine jr_cs3 (mc' := 0) (ms' := 0) rfl jm_MD_isIn_n jm_MD_isIn_f rfl rfl rfl rfl rfl (Nat.zero_le _) (Nat.zero_le _) ?_
                            show jx_W (jm_MD_isIn, _, _, _, _, _, _) _ 0 0 0 [some _, some _, some _] [] _
                            refine jr_iload rfl rfl ?_
                            refine jr_iload rfl rfl ?_
                            refine jr_icmp_lt rfl (fun m2MDisIn_2 => ?_) (fun m2MDisIn_2 => ?_)
                            · refine jr_ic rfl ?_
                              refine jr_zret rfl rfl rfl (Nat.zero_le _) (Nat.zero_le _) ?_
                              refine jr_zret rfl rfl rfl (Nat.zero_le _) (Nat.zero_le _) ?_
                              refine jr_if_ne rfl (fun z => absurd (by decide) z) (fun _ => ?_)
                              refine jr_ic rfl ?_
                              refine jr_iret rfl rfl (Nat.zero_le _) (Nat.zero_le _) ?_
                              first
                                | exact ⟨rfl, hRel0⟩
                                | (exfalso; omega)
                                | (exfalso; simp (disch := omega) only [Int32.lt_iff_toInt_lt, Int32.le_iff_toInt_le, ← Int32.toInt_inj, Int32.reduceToInt, nI_toInt] at c3 c5 c8 c1RephasPerson c5RephasPerson m2MDisIn m5MDisIn m5MDhasMonths m2MDisIn_2; done)
                                | (exfalso; simp (disch := omega) only [Int32.lt_iff_toInt_lt, Int32.le_iff_toInt_le, ← Int32.toInt_inj, Int32.reduceToInt, nI_toInt] at c3 c5 c8 c1RephasPerson c5RephasPerson m2MDisIn m5MDisIn m5MDhasMonths m2MDisIn_2; omega)
                            · refine jr_iload rfl rfl ?_
                              refine jr_iload rfl rfl ?_
                              refine jr_icmp_gt rfl (fun m5MDisIn_2 => ?_) (fun m5MDisIn_2 => ?_)
                              · refine jr_ic rfl ?_
                                refine jr_zret rfl rfl rfl (Nat.zero_le _) (Nat.zero_le _) ?_
                                refine jr_zret rfl rfl rfl (Nat.zero_le _) (Nat.zero_le _) ?_
                                refine jr_if_ne rfl (fun z => absurd (by decide) z) (fun _ => ?_)
                                refine jr_ic rfl ?_
                                refine jr_iret rfl rfl (Nat.zero_le _) (Nat.zero_le _) ?_
                                first
                                  | exact ⟨rfl, hRel0⟩
                                  | (exfalso; omega)
                                  | (exfalso; simp (disch := omega) only [Int32.lt_iff_toInt_lt, Int32.le_iff_toInt_le, ← Int32.toInt_inj, Int32.reduceToInt, nI_toInt] at c3 c5 c8 c1RephasPerson c5RephasPerson m2MDisIn m5MDisIn m5MDhasMonths m2MDisIn_2 m5MDisIn_2; done)
                                  | (exfalso; simp (disch := omega) only [Int32.lt_iff_toInt_lt, Int32.le_iff_toInt_le, ← Int32.toInt_inj, Int32.reduceToInt, nI_toInt] at c3 c5 c8 c1RephasPerson c5RephasPerson m2MDisIn m5MDisIn m5MDhasMonths m2MDisIn_2 m5MDisIn_2; omega)
                              · refine jr_ic rfl ?_
                                refine jr_goto rfl ?_
                                refine jr_zret rfl rfl rfl (Nat.zero_le _) (Nat.zero_le _) ?_
                                refine jr_zret rfl rfl rfl (Nat.zero_le _) (Nat.zero_le _) ?_
                                refine jr_if_ne rfl (fun _ => ?_) (fun z => absurd z (by decide))
                                refine jr_aload rfl rfl ?_
                                refine jr_cv0 (mc' := 0) (ms' := 0) rfl jm_MD_keepHead_n jm_MD_keepHead_f rfl rfl rfl rfl rfl rfl rfl (Nat.zero_le _) (Nat.zero_le _) ?_
                                first
                                  | (exfalso; omega)
                                  | (exfalso; simp (disch := omega) only [Int32.lt_iff_toInt_lt, Int32.le_iff_toInt_le, ← Int32.toInt_inj, Int32.reduceToInt, nI_toInt] at c3 c5 c8 c1RephasPerson c5RephasPerson m2MDisIn m5MDisIn m5MDhasMonths m2MDisIn_2 m5MDisIn_2; done)
                                  | (exfalso; simp (disch := omega) only [Int32.lt_iff_toInt_lt, Int32.le_iff_toInt_le, ← Int32.toInt_inj, Int32.reduceToInt, nI_toInt] at c3 c5 c8 c1RephasPerson c5RephasPerson m2MDisIn m5MDisIn m5MDhasMonths m2MDisIn_2 m5MDisIn_2; omega)
                    · refine jr_ic rfl ?_
                      refine jr_goto rfl ?_
                      refine jr_zret rfl rfl rfl (Nat.zero_le _) (Nat.zero_le _) ?_
                      refine jr_if_eq rfl (fun z => absurd z (by decide)) (fun _ => ?_)
                      refine jr_aload rfl rfl ?_
                      refine jr_getR rfl rfl rfl rfl (Or.inl rfl) ?_
                      refine jr_aload rfl rfl ?_
                      refine jr_getR rfl rfl rfl rfl (Or.inl rfl) ?_
                      refine jr_iload rfl rfl ?_
                      refine jr_iload rfl rfl ?_
                      refine jr_cv3 (mc' := 0) (ms' := 0) rfl jm_For_hadAhead_n jm_For_hadAhead_f rfl rfl rfl rfl rfl rfl rfl (Nat.zero_le _) (Nat.zero_le _) ?_
                      show jx_W (jm_For_hadAhead, _, _, _, _, _, _) _ 0 0 0 [some _, some _, some _, some _] [] _
                      refine jr_aload rfl rfl ?_
                      refine jr_aload rfl rfl ?_
                      refine jr_iload rfl rfl ?_
                      refine jr_cv2 (mc' := 0) (ms' := 0) rfl jm_For_stepFrom_n jm_For_stepFrom_f rfl rfl rfl rfl rfl rfl rfl (Nat.zero_le _) (Nat.zero_le _) ?_
                      first
                        | (exfalso; omega)
                        | (exfalso; simp (disch := omega) only [Int32.lt_iff_toInt_lt, Int32.le_iff_toInt_le, ← Int32.toInt_inj, Int32.reduceToInt, nI_toInt] at c3 c5 c8 c1RephasPerson c5RephasPerson; done)
                        | (exfalso; simp (disch := omega) only [Int32.lt_iff_toInt_lt, Int32.le_iff_toInt_le, ← Int32.toInt_inj, Int32.reduceToInt, nI_toInt] at c3 c5 c8 c1RephasPerson c5RephasPerson; omega)
                · refine jr_ic rfl ?_
                  refine jr_iret rfl rfl (Nat.zero_le _) (Nat.zero_le _) ?_
                  show jx_W (jm_MD_ahead, d + 40, 0, 0, false, 1, _) _ 0 0 0 [some _, some _, some _, some _, none, none] [] _
                  refine jr_iload rfl rfl ?_
                  refine jr_ic rfl ?_
                  refine jr_ic rfl ?_
                  refine jr_cs3 (mc' := 0) (ms' := 0) rfl jm_MD_isIn_n jm_MD_isIn_f rfl rfl rfl rfl rfl (Nat.zero_le _) (Nat.zero_le _) ?_
                  show jx_W (jm_MD_isIn, _, _, _, _, _, _) _ 0 0 0 [some _, some _, some _] [] _
                  refine jr_iload rfl rfl ?_
                  refine jr_iload rfl rfl ?_
                  refine jr_icmp_lt rfl (fun m2MDisIn => ?_) (fun m2MDisIn => ?_)
                  · refine jr_ic rfl ?_
                    refine jr_zret rfl rfl rfl (Nat.zero_le _) (Nat.zero_le _) ?_
                    refine jr_if_eq rfl (fun _ => ?_) (fun z => absurd (by decide) z)
                    refine jr_ic rfl ?_
                    refine jr_iret rfl rfl (Nat.zero_le _) (Nat.zero_le _) ?_
                    first
                      | exact ⟨rfl, hRel0⟩
                      | (exfalso; omega)
                      | (exfalso; simp (disch := omega) only [Int32.lt_iff_toInt_lt, Int32.le_iff_toInt_le, ← Int32.toInt_inj, Int32.reduceToInt, nI_toInt] at c3 c5 c8 m2MDisIn; done)
                      | (exfalso; simp (disch := omega) only [Int32.lt_iff_toInt_lt, Int32.le_iff_toInt_le, ← Int32.toInt_inj, Int32.reduceToInt, nI_toInt] at c3 c5 c8 m2MDisIn; omega)
                  · refine jr_iload rfl rfl ?_
                    refine jr_iload rfl rfl ?_
                    refine jr_icmp_gt rfl (fun m5MDisIn => ?_) (fun m5MDisIn => ?_)
                    · refine jr_ic rfl ?_
                      refine jr_zret rfl rfl rfl (Nat.zero_le _) (Nat.zero_le _) ?_
                      refine jr_if_eq rfl (fun _ => ?_) (fun z => absurd (by decide) z)
                      refine jr_ic rfl ?_
                      refine jr_iret rfl rfl (Nat.zero_le _) (Nat.zero_le _) ?_
                      first
                        | exact ⟨rfl, hRel0⟩
                        | (exfalso; omega)
                        | (exfalso; simp (disch := omega) only [Int32.lt_iff_toInt_lt, Int32.le_iff_toInt_le, ← Int32.toInt_inj, Int32.reduceToInt, nI_toInt] at c3 c5 c8 m2MDisIn m5MDisIn; done)
                        | (exfalso; simp (disch := omega) only [Int32.lt_iff_toInt_lt, Int32.le_iff_toInt_le, ← Int32.toInt_inj, Int32.reduceToInt, nI_toInt] at c3 c5 c8 m2MDisIn m5MDisIn; omega)
                    · refine jr_ic rfl ?_
                      refine jr_goto rfl ?_
                      refine jr_zret rfl rfl rfl (Nat.zero_le _) (Nat.zero_le _) ?_
                      refine jr_if_eq rfl (fun z => absurd z (by decide)) (fun _ => ?_)
                      refine jr_iload rfl rfl ?_
                      refine jr_ic rfl ?_
                      refine jr_ic rfl ?_
                      refine jr_cs3 (mc' := 0) (ms' := 0) rfl jm_MD_isIn_n jm_MD_isIn_f rfl rfl rfl rfl rfl (Nat.zero_le _) (Nat.zero_le _) ?_
                      show jx_W (jm_MD_isIn, _, _, _, _, _, _) _ 0 0 0 [some _, some _, some _] [] _
                      refine jr_iload rfl rfl ?_
                      refine jr_iload rfl rfl ?_
                      refine jr_icmp_lt rfl (fun z => absurd z (by decide)) (fun _ => ?_)
                      refine jr_iload rfl rfl ?_
                      refine jr_iload rfl rfl ?_
                      refine jr_icmp_gt rfl (fun z => absurd z (by decide)) (fun _ => ?_)
                      refine jr_ic rfl ?_
                      refine jr_goto rfl ?_
                      refine jr_zret rfl rfl rfl (Nat.zero_le _) (Nat.zero_le _) ?_
                      refine jr_if_eq rfl (fun z => absurd z (by decide)) (fun _ => ?_)
                      refine jr_aload rfl rfl ?_
                      refine jr_cv0 (mc' := 0) (ms' := 0) rfl jm_MD_hasMonths_n jm_MD_hasMonths_f rfl rfl rfl rfl rfl rfl rfl (Nat.zero_le _) (Nat.zero_le _) ?_
                      show jx_W (jm_MD_hasMonths, _, _, _, _, _, _) _ 0 0 0 [some _] [] _
                      refine jr_aload rfl rfl ?_
                      refine jr_getR rfl rfl rfl rfl (Or.inl rfl) ?_
                      refine jr_aload rfl rfl ?_
                      refine jr_getI rfl rfl ?_
                      refine jr_iald (len := 2) rfl rfl hw.1 (by omega) ?_
                      refine jr_if_le rfl (fun m5MDhasMonths => ?_) (fun m5MDhasMonths => ?_)
                      · refine jr_ic rfl ?_
                        refine jr_zret rfl rfl rfl (Nat.zero_le _) (Nat.zero_le _) ?_
                        refine jr_if_eq rfl (fun _ => ?_) (fun z => absurd (by decide) z)
                        refine jr_ic rfl ?_
                        refine jr_iret rfl rfl (Nat.zero_le _) (Nat.zero_le _) ?_
                        first
                          | exact ⟨rfl, hRel0⟩
                          | (exfalso; omega)
                          | (exfalso; simp (disch := omega) only [Int32.lt_iff_toInt_lt, Int32.le_iff_toInt_le, ← Int32.toInt_inj, Int32.reduceToInt, nI_toInt] at c3 c5 c8 m2MDisIn m5MDisIn m5MDhasMonths; done)
                          | (exfalso; simp (disch := omega) only [Int32.lt_iff_toInt_lt, Int32.le_iff_toInt_le, ← Int32.toInt_inj, Int32.reduceToInt, nI_toInt] at c3 c5 c8 m2MDisIn m5MDisIn m5MDhasMonths; omega)
                      · refine jr_ic rfl ?_
                        refine jr_goto rfl ?_
                        refine jr_zret rfl rfl rfl (Nat.zero_le _) (Nat.zero_le _) ?_
                        refine jr_if_eq rfl (fun z => absurd z (by decide)) (fun _ => ?_)
                        refine jr_iload rfl rfl ?_
                        refine jr_ic rfl ?_
                        refine jr_icmp_ne rfl (fun z => absurd (by decide) z) (fun _ => ?_)
                        refine jr_aload rfl rfl ?_
                        refine jr_iload rfl rfl ?_
                        refine jr_cv1 (mc' := 0) (ms' := 0) rfl jm_MD_isPerson_n jm_MD_isPerson_f rfl rfl rfl rfl rfl rfl rfl (Nat.zero_le _) (Nat.zero_le _) ?_
                        show jx_W (jm_MD_isPerson, _, _, _, _, _, _) _ 0 0 0 [some _, some _] [] _
                        refine jr_iload rfl rfl ?_
                        refine jr_ic rfl ?_
                        refine jr_aload rfl rfl ?_
                        refine jr_cv0 (mc' := 0) (ms' := 0) rfl jm_MD_personMany_n jm_MD_personMany_f rfl rfl rfl rfl rfl rfl rfl (Nat.zero_le _) (Nat.zero_le _) ?_
                        show jx_W (jm_MD_personMany, _, _, _, _, _, _) _ 0 0 0 [some _] [] _
                        refine jr_aload rfl rfl ?_
                        refine jr_getR rfl rfl rfl rfl (Or.inl rfl) ?_
                        refine jr_aload rfl rfl ?_
                        refine jr_getI rfl rfl ?_
                        refine jr_iald (len := 2) rfl rfl hw.1 (by omega) ?_
                        refine jr_iret rfl rfl (Nat.zero_le _) (Nat.zero_le _) ?_
                        refine jr_ic rfl ?_
                        refine jr_isub rfl ?_
                        refine jr_cs3 (mc' := 0) (ms' := 0) rfl jm_MD_isIn_n jm_MD_isIn_f rfl rfl rfl rfl rfl (Nat.zero_le _) (Nat.zero_le _) ?_
                        show jx_W (jm_MD_isIn, _, _, _, _, _, _) _ 0 0 0 [some _, some _, some _] [] _
                        refine jr_iload rfl rfl ?_
                        refine jr_iload rfl rfl ?_
                        refine jr_icmp_lt rfl (fun m2MDisIn_2 => ?_) (fun m2MDisIn_2 => ?_)
                        · refine jr_ic rfl ?_
                          refine jr_zret rfl rfl rfl (Nat.zero_le _) (Nat.zero_le _) ?_
                          refine jr_zret rfl rfl rfl (Nat.zero_le _) (Nat.zero_le _) ?_
                          refine jr_if_ne rfl (fun z => absurd (by decide) z) (fun _ => ?_)
                          refine jr_ic rfl ?_
                          refine jr_iret rfl rfl (Nat.zero_le _) (Nat.zero_le _) ?_
                          first
                            | exact ⟨rfl, hRel0⟩
                            | (exfalso; omega)
                            | (exfalso; simp (disch := omega) only [Int32.lt_iff_toInt_lt, Int32.le_iff_toInt_le, ← Int32.toInt_inj, Int32.reduceToInt, nI_toInt] at c3 c5 c8 m2MDisIn m5MDisIn m5MDhasMonths m2MDisIn_2; done)
                            | (exfalso; simp (disch := omega) only [Int32.lt_iff_toInt_lt, Int32.le_iff_toInt_le, ← Int32.toInt_inj, Int32.reduceToInt, nI_toInt] at c3 c5 c8 m2MDisIn m5MDisIn m5MDhasMonths m2MDisIn_2; omega)
                        · refine jr_iload rfl rfl ?_
                          refine jr_iload rfl rfl ?_
                          refine jr_icmp_gt rfl (fun m5MDisIn_2 => ?_) (fun m5MDisIn_2 => ?_)
                          · refine jr_ic rfl ?_
                            refine jr_zret rfl rfl rfl (Nat.zero_le _) (Nat.zero_le _) ?_
                            refine jr_zret rfl rfl rfl (Nat.zero_le _) (Nat.zero_le _) ?_
                            refine jr_if_ne rfl (fun z => absurd (by decide) z) (fun _ => ?_)
                            refine jr_ic rfl ?_
                            refine jr_iret rfl rfl (Nat.zero_le _) (Nat.zero_le _) ?_
                            first
                              | exact ⟨rfl, hRel0⟩
                              | (exfalso; omega)
                              | (exfalso; simp (disch := omega) only [Int32.lt_iff_toInt_lt, Int32.le_iff_toInt_le, ← Int32.toInt_inj, Int32.reduceToInt, nI_toInt] at c3 c5 c8 m2MDisIn m5MDisIn m5MDhasMonths m2MDisIn_2 m5MDisIn_2; done)
                              | (exfalso; simp (disch := omega) only [Int32.lt_iff_toInt_lt, Int32.le_iff_toInt_le, ← Int32.toInt_inj, Int32.reduceToInt, nI_toInt] at c3 c5 c8 m2MDisIn m5MDisIn m5MDhasMonths m2MDisIn_2 m5MDisIn_2; omega)
                          · refine jr_ic rfl ?_
                            refine jr_goto rfl ?_
                            refine jr_zret rfl rfl rfl (Nat.zero_le _) (Nat.zero_le _) ?_
                            refine jr_zret rfl rfl rfl (Nat.zero_le _) (Nat.zero_le _) ?_
                            refine jr_if_ne rfl (fun _ => ?_) (fun z => absurd z (by decide))
                            refine jr_aload rfl rfl ?_
                            refine jr_cv0 (mc' := 0) (ms' := 0) rfl jm_MD_keepHead_n jm_MD_keepHead_f rfl rfl rfl rfl rfl rfl rfl (Nat.zero_le _) (Nat.zero_le _) ?_
                            first
                              | (exfalso; omega)
                              | (exfalso; simp (disch := omega) only [Int32.lt_iff_toInt_lt, Int32.le_iff_toInt_le, ← Int32.toInt_inj, Int32.reduceToInt, nI_toInt] at c3 c5 c8 m2MDisIn m5MDisIn m5MDhasMonths m2MDisIn_2 m5MDisIn_2; done)
                              | (exfalso; simp (disch := omega) only [Int32.lt_iff_toInt_lt, Int32.le_iff_toInt_le, ← Int32.toInt_inj, Int32.reduceToInt, nI_toInt] at c3 c5 c8 m2MDisIn m5MDisIn m5MDhasMonths m2MDisIn_2 m5MDisIn_2; omega)
        · simp only [← Int32.toInt_inj, Int32.reduceToInt] at hy0 hy1 hy2
          show jx_W (jm_JV_ahead, d + 40, 0, 0, false, 0, _) _ 0 0 0 [some (jv_r 10 0), some (jv_i (nI i)), some (jv_i y), some (jv_i z)] [] _
          refine jr_aload rfl rfl ?_
          refine jr_getM rfl rfl rfl rfl hto ?_
          refine jr_getI rfl rfl ?_
          refine jr_if_eq rfl (fun c3 => ?_) (fun c3 => ?_)
          · refine jr_ic rfl ?_
            refine jr_iret rfl rfl (Nat.zero_le _) (Nat.zero_le _) ?_
            show jx_W (jm_MD_ahead, d + 40, 0, 0, false, 1, _) _ 0 0 0 [some _, some _, some _, some _, none, none] [] _
            refine jr_iload rfl rfl ?_
            refine jr_ic rfl ?_
            refine jr_ic rfl ?_
            refine jr_cs3 (mc' := 0) (ms' := 0) rfl jm_MD_isIn_n jm_MD_isIn_f rfl rfl rfl rfl rfl (Nat.zero_le _) (Nat.zero_le _) ?_
            show jx_W (jm_MD_isIn, _, _, _, _, _, _) _ 0 0 0 [some _, some _, some _] [] _
            refine jr_iload rfl rfl ?_
            refine jr_iload rfl rfl ?_
            refine jr_icmp_lt rfl (fun m2MDisIn => ?_) (fun m2MDisIn => ?_)
            · refine jr_ic rfl ?_
              refine jr_zret rfl rfl rfl (Nat.zero_le _) (Nat.zero_le _) ?_
              refine jr_if_eq rfl (fun _ => ?_) (fun z => absurd (by decide) z)
              refine jr_ic rfl ?_
              refine jr_iret rfl rfl (Nat.zero_le _) (Nat.zero_le _) ?_
              first
                | exact ⟨rfl, hRel0⟩
                | (exfalso; omega)
                | (exfalso; simp (disch := omega) only [Int32.lt_iff_toInt_lt, Int32.le_iff_toInt_le, ← Int32.toInt_inj, Int32.reduceToInt, nI_toInt] at c3 m2MDisIn; done)
                | (exfalso; simp (disch := omega) only [Int32.lt_iff_toInt_lt, Int32.le_iff_toInt_le, ← Int32.toInt_inj, Int32.reduceToInt, nI_toInt] at c3 m2MDisIn; omega)
            · refine jr_iload rfl rfl ?_
              refine jr_iload rfl rfl ?_
              refine jr_icmp_gt rfl (fun m5MDisIn => ?_) (fun m5MDisIn => ?_)
              · refine jr_ic rfl ?_
                refine jr_zret rfl rfl rfl (Nat.zero_le _) (Nat.zero_le _) ?_
                refine jr_if_eq rfl (fun _ => ?_) (fun z => absurd (by decide) z)
                refine jr_ic rfl ?_
                refine jr_iret rfl rfl (Nat.zero_le _) (Nat.zero_le _) ?_
                first
                  | exact ⟨rfl, hRel0⟩
                  | (exfalso; omega)
                  | (exfalso; simp (disch := omega) only [Int32.lt_iff_toInt_lt, Int32.le_iff_toInt_le, ← Int32.toInt_inj, Int32.reduceToInt, nI_toInt] at c3 m2MDisIn m5MDisIn; done)
                  | (exfalso; simp (disch := omega) only [Int32.lt_iff_toInt_lt, Int32.le_iff_toInt_le, ← Int32.toInt_inj, Int32.reduceToInt, nI_toInt] at c3 m2MDisIn m5MDisIn; omega)
              · refine jr_ic rfl ?_
                refine jr_goto rfl ?_
                refine jr_zret rfl rfl rfl (Nat.zero_le _) (Nat.zero_le _) ?_
                refine jr_if_eq rfl (fun z => absurd z (by decide)) (fun _ => ?_)
                refine jr_iload rfl rfl ?_
                refine jr_ic rfl ?_
                refine jr_ic rfl ?_
                refine jr_cs3 (mc' := 0) (ms' := 0) rfl jm_MD_isIn_n jm_MD_isIn_f rfl rfl rfl rfl rfl (Nat.zero_le _) (Nat.zero_le _) ?_
                show jx_W (jm_MD_isIn, _, _, _, _, _, _) _ 0 0 0 [some _, some _, some _] [] _
                refine jr_iload rfl rfl ?_
                refine jr_iload rfl rfl ?_
                refine jr_icmp_lt rfl (fun m2MDisIn_2 => ?_) (fun m2MDisIn_2 => ?_)
                · refine jr_ic rfl ?_
                  refine jr_zret rfl rfl rfl (Nat.zero_le _) (Nat.zero_le _) ?_
                  refine jr_if_eq rfl (fun _ => ?_) (fun z => absurd (by decide) z)
                  refine jr_ic rfl ?_
                  refine jr_iret rfl rfl (Nat.zero_le _) (Nat.zero_le _) ?_
                  first
                    | exact ⟨rfl, hRel0⟩
                    | (exfalso; omega)
                    | (exfalso; simp (disch := omega) only [Int32.lt_iff_toInt_lt, Int32.le_iff_toInt_le, ← Int32.toInt_inj, Int32.reduceToInt, nI_toInt] at c3 m2MDisIn m5MDisIn m2MDisIn_2; done)
                    | (exfalso; simp (disch := omega) only [Int32.lt_iff_toInt_lt, Int32.le_iff_toInt_le, ← Int32.toInt_inj, Int32.reduceToInt, nI_toInt] at c3 m2MDisIn m5MDisIn m2MDisIn_2; omega)
                · refine jr_iload rfl rfl ?_
                  refine jr_iload rfl rfl ?_
                  refine jr_icmp_gt rfl (fun m5MDisIn_2 => ?_) (fun m5MDisIn_2 => ?_)
                  · refine jr_ic rfl ?_
                    refine jr_zret rfl rfl rfl (Nat.zero_le _) (Nat.zero_le _) ?_
                    refine jr_if_eq rfl (fun _ => ?_) (fun z => absurd (by decide) z)
                    refine jr_ic rfl ?_
                    refine jr_iret rfl rfl (Nat.zero_le _) (Nat.zero_le _) ?_
                    first
                      | exact ⟨rfl, hRel0⟩
                      | (exfalso; omega)
                      | (exfalso; simp (disch := omega) only [Int32.lt_iff_toInt_lt, Int32.le_iff_toInt_le, ← Int32.toInt_inj, Int32.reduceToInt, nI_toInt] at c3 m2MDisIn m5MDisIn m2MDisIn_2 m5MDisIn_2; done)
                      | (exfalso; simp (disch := omega) only [Int32.lt_iff_toInt_lt, Int32.le_iff_toInt_le, ← Int32.toInt_inj, Int32.reduceToInt, nI_toInt] at c3 m2MDisIn m5MDisIn m2MDisIn_2 m5MDisIn_2; omega)
                  · refine jr_ic rfl ?_
                    refine jr_goto rfl ?_
                    refine jr_zret rfl rfl rfl (Nat.zero_le _) (Nat.zero_le _) ?_
                    refine jr_if_eq rfl (fun z => absurd z (by decide)) (fun _ => ?_)
                    refine jr_aload rfl rfl ?_
                    refine jr_cv0 (mc' := 0) (ms' := 0) rfl jm_MD_hasMonths_n jm_MD_hasMonths_f rfl rfl rfl rfl rfl rfl rfl (Nat.zero_le _) (Nat.zero_le _) ?_
                    show jx_W (jm_MD_hasMonths, _, _, _, _, _, _) _ 0 0 0 [some _] [] _
                    refine jr_aload rfl rfl ?_
                    refine jr_getR rfl rfl rfl rfl (Or.inl rfl) ?_
                    refine jr_aload rfl rfl ?_
                    refine jr_getI rfl rfl ?_
                    refine jr_iald (len := 2) rfl rfl hw.1 (by omega) ?_
                    refine jr_if_le rfl (fun m5MDhasMonths => ?_) (fun m5MDhasMonths => ?_)
                    · refine jr_ic rfl ?_
                      refine jr_zret rfl rfl rfl (Nat.zero_le _) (Nat.zero_le _) ?_
                      refine jr_if_eq rfl (fun _ => ?_) (fun z => absurd (by decide) z)
                      refine jr_ic rfl ?_
                      refine jr_iret rfl rfl (Nat.zero_le _) (Nat.zero_le _) ?_
                      first
                        | exact ⟨rfl, hRel0⟩
                        | (exfalso; omega)
                        | (exfalso; simp (disch := omega) only [Int32.lt_iff_toInt_lt, Int32.le_iff_toInt_le, ← Int32.toInt_inj, Int32.reduceToInt, nI_toInt] at c3 m2MDisIn m5MDisIn m2MDisIn_2 m5MDisIn_2 m5MDhasMonths; done)
                        | (exfalso; simp (disch := omega) only [Int32.lt_iff_toInt_lt, Int32.le_iff_toInt_le, ← Int32.toInt_inj, Int32.reduceToInt, nI_toInt] at c3 m2MDisIn m5MDisIn m2MDisIn_2 m5MDisIn_2 m5MDhasMonths; omega)
                    · refine jr_ic rfl ?_
                      refine jr_goto rfl ?_
                      refine jr_zret rfl rfl rfl (Nat.zero_le _) (Nat.zero_le _) ?_
                      refine jr_if_eq rfl (fun z => absurd z (by decide)) (fun _ => ?_)
                      refine jr_iload rfl rfl ?_
                      refine jr_ic rfl ?_
                      refine jr_icmp_ne rfl (fun m15 => ?_) (fun m15 => ?_)
                      · refine jr_aload rfl rfl ?_
                        refine jr_cv0 (mc' := 0) (ms' := 0) rfl jm_MD_keepHead_n jm_MD_keepHead_f rfl rfl rfl rfl rfl rfl rfl (Nat.zero_le _) (Nat.zero_le _) ?_
                        first
                          | (exfalso; omega)
                          | (exfalso; simp (disch := omega) only [Int32.lt_iff_toInt_lt, Int32.le_iff_toInt_le, ← Int32.toInt_inj, Int32.reduceToInt, nI_toInt] at c3 m2MDisIn m5MDisIn m2MDisIn_2 m5MDisIn_2 m5MDhasMonths m15; done)
                          | (exfalso; simp (disch := omega) only [Int32.lt_iff_toInt_lt, Int32.le_iff_toInt_le, ← Int32.toInt_inj, Int32.reduceToInt, nI_toInt] at c3 m2MDisIn m5MDisIn m2MDisIn_2 m5MDisIn_2 m5MDhasMonths m15; omega)
                      · refine jr_aload rfl rfl ?_
                        refine jr_iload rfl rfl ?_
                        refine jr_cv1 (mc' := 0) (ms' := 0) rfl jm_MD_isPerson_n jm_MD_isPerson_f rfl rfl rfl rfl rfl rfl rfl (Nat.zero_le _) (Nat.zero_le _) ?_
                        show jx_W (jm_MD_isPerson, _, _, _, _, _, _) _ 0 0 0 [some _, some _] [] _
                        refine jr_iload rfl rfl ?_
                        refine jr_ic rfl ?_
                        refine jr_aload rfl rfl ?_
                        refine jr_cv0 (mc' := 0) (ms' := 0) rfl jm_MD_personMany_n jm_MD_personMany_f rfl rfl rfl rfl rfl rfl rfl (Nat.zero_le _) (Nat.zero_le _) ?_
                        show jx_W (jm_MD_personMany, _, _, _, _, _, _) _ 0 0 0 [some _] [] _
                        refine jr_aload rfl rfl ?_
                        refine jr_getR rfl rfl rfl rfl (Or.inl rfl) ?_
                        refine jr_aload rfl rfl ?_
                        refine jr_getI rfl rfl ?_
                        refine jr_iald (len := 2) rfl rfl hw.1 (by omega) ?_
                        refine jr_iret rfl rfl (Nat.zero_le _) (Nat.zero_le _) ?_
                        refine jr_ic rfl ?_
                        refine jr_isub rfl ?_
                        refine jr_cs3 (mc' := 0) (ms' := 0) rfl jm_MD_isIn_n jm_MD_isIn_f rfl rfl rfl rfl rfl (Nat.zero_le _) (Nat.zero_le _) ?_
                        show jx_W (jm_MD_isIn, _, _, _, _, _, _) _ 0 0 0 [some _, some _, some _] [] _
                        refine jr_iload rfl rfl ?_
                        refine jr_iload rfl rfl ?_
                        refine jr_icmp_lt rfl (fun m2MDisIn_3 => ?_) (fun m2MDisIn_3 => ?_)
                        · refine jr_ic rfl ?_
                          refine jr_zret rfl rfl rfl (Nat.zero_le _) (Nat.zero_le _) ?_
                          refine jr_zret rfl rfl rfl (Nat.zero_le _) (Nat.zero_le _) ?_
                          refine jr_if_ne rfl (fun z => absurd (by decide) z) (fun _ => ?_)
                          refine jr_ic rfl ?_
                          refine jr_iret rfl rfl (Nat.zero_le _) (Nat.zero_le _) ?_
                          first
                            | exact ⟨rfl, hRel0⟩
                            | (exfalso; omega)
                            | (exfalso; simp (disch := omega) only [Int32.lt_iff_toInt_lt, Int32.le_iff_toInt_le, ← Int32.toInt_inj, Int32.reduceToInt, nI_toInt] at c3 m2MDisIn m5MDisIn m2MDisIn_2 m5MDisIn_2 m5MDhasMonths m15 m2MDisIn_3; done)
                            | (exfalso; simp (disch := omega) only [Int32.lt_iff_toInt_lt, Int32.le_iff_toInt_le, ← Int32.toInt_inj, Int32.reduceToInt, nI_toInt] at c3 m2MDisIn m5MDisIn m2MDisIn_2 m5MDisIn_2 m5MDhasMonths m15 m2MDisIn_3; omega)
                        · refine jr_iload rfl rfl ?_
                          refine jr_iload rfl rfl ?_
                          refine jr_icmp_gt rfl (fun m5MDisIn_3 => ?_) (fun m5MDisIn_3 => ?_)
                          · refine jr_ic rfl ?_
                            refine jr_zret rfl rfl rfl (Nat.zero_le _) (Nat.zero_le _) ?_
                            refine jr_zret rfl rfl rfl (Nat.zero_le _) (Nat.zero_le _) ?_
                            refine jr_if_ne rfl (fun z => absurd (by decide) z) (fun _ => ?_)
                            refine jr_ic rfl ?_
                            refine jr_iret rfl rfl (Nat.zero_le _) (Nat.zero_le _) ?_
                            first
                              | exact ⟨rfl, hRel0⟩
                              | (exfalso; omega)
                              | (exfalso; simp (disch := omega) only [Int32.lt_iff_toInt_lt, Int32.le_iff_toInt_le, ← Int32.toInt_inj, Int32.reduceToInt, nI_toInt] at c3 m2MDisIn m5MDisIn m2MDisIn_2 m5MDisIn_2 m5MDhasMonths m15 m2MDisIn_3 m5MDisIn_3; done)
                              | (exfalso; simp (disch := omega) only [Int32.lt_iff_toInt_lt, Int32.le_iff_toInt_le, ← Int32.toInt_inj, Int32.reduceToInt, nI_toInt] at c3 m2MDisIn m5MDisIn m2MDisIn_2 m5MDisIn_2 m5MDhasMonths m15 m2MDisIn_3 m5MDisIn_3; omega)
                          · refine jr_ic rfl ?_
                            refine jr_goto rfl ?_
                            refine jr_zret rfl rfl rfl (Nat.zero_le _) (Nat.zero_le _) ?_
                            refine jr_zret rfl rfl rfl (Nat.zero_le _) (Nat.zero_le _) ?_
                            refine jr_if_ne rfl (fun _ => ?_) (fun z => absurd z (by decide))
                            refine jr_aload rfl rfl ?_
                            refine jr_cv0 (mc' := 0) (ms' := 0) rfl jm_MD_keepHead_n jm_MD_keepHead_f rfl rfl rfl rfl rfl rfl rfl (Nat.zero_le _) (Nat.zero_le _) ?_
                            first
                              | (exfalso; omega)
                              | (exfalso; simp (disch := omega) only [Int32.lt_iff_toInt_lt, Int32.le_iff_toInt_le, ← Int32.toInt_inj, Int32.reduceToInt, nI_toInt] at c3 m2MDisIn m5MDisIn m2MDisIn_2 m5MDisIn_2 m5MDhasMonths m15 m2MDisIn_3 m5MDisIn_3; done)
                              | (exfalso; simp (disch := omega) only [Int32.lt_iff_toInt_lt, Int32.le_iff_toInt_le, ← Int32.toInt_inj, Int32.reduceToInt, nI_toInt] at c3 m2MDisIn m5MDisIn m2MDisIn_2 m5MDisIn_2 m5MDhasMonths m15 m2MDisIn_3 m5MDisIn_3; omega)
          · refine jr_iload rfl rfl ?_
            refine jr_if_lt rfl (fun c5 => ?_) (fun c5 => ?_)
            · refine jr_ic rfl ?_
              refine jr_iret rfl rfl (Nat.zero_le _) (Nat.zero_le _) ?_
              show jx_W (jm_MD_ahead, d + 40, 0, 0, false, 1, _) _ 0 0 0 [some _, some _, some _, some _, none, none] [] _
              refine jr_iload rfl rfl ?_
              refine jr_ic rfl ?_
              refine jr_ic rfl ?_
              refine jr_cs3 (mc' := 0) (ms' := 0) rfl jm_MD_isIn_n jm_MD_isIn_f rfl rfl rfl rfl rfl (Nat.zero_le _) (Nat.zero_le _) ?_
              show jx_W (jm_MD_isIn, _, _, _, _, _, _) _ 0 0 0 [some _, some _, some _] [] _
              refine jr_iload rfl rfl ?_
              refine jr_iload rfl rfl ?_
              refine jr_icmp_lt rfl (fun m2MDisIn => ?_) (fun m2MDisIn => ?_)
              · refine jr_ic rfl ?_
                refine jr_zret rfl rfl rfl (Nat.zero_le _) (Nat.zero_le _) ?_
                refine jr_if_eq rfl (fun _ => ?_) (fun z => absurd (by decide) z)
                refine jr_ic rfl ?_
                refine jr_iret rfl rfl (Nat.zero_le _) (Nat.zero_le _) ?_
                first
                  | exact ⟨rfl, hRel0⟩
                  | (exfalso; omega)
                  | (exfalso; simp (disch := omega) only [Int32.lt_iff_toInt_lt, Int32.le_iff_toInt_le, ← Int32.toInt_inj, Int32.reduceToInt, nI_toInt] at c3 c5 m2MDisIn; done)
                  | (exfalso; simp (disch := omega) only [Int32.lt_iff_toInt_lt, Int32.le_iff_toInt_le, ← Int32.toInt_inj, Int32.reduceToInt, nI_toInt] at c3 c5 m2MDisIn; omega)
              · refine jr_iload rfl rfl ?_
                refine jr_iload rfl rfl ?_
                refine jr_icmp_gt rfl (fun m5MDisIn => ?_) (fun m5MDisIn => ?_)
                · refine jr_ic rfl ?_
                  refine jr_zret rfl rfl rfl (Nat.zero_le _) (Nat.zero_le _) ?_
                  refine jr_if_eq rfl (fun _ => ?_) (fun z => absurd (by decide) z)
                  refine jr_ic rfl ?_
                  refine jr_iret rfl rfl (Nat.zero_le _) (Nat.zero_le _) ?_
                  first
                    | exact ⟨rfl, hRel0⟩
                    | (exfalso; omega)
                    | (exfalso; simp (disch := omega) only [Int32.lt_iff_toInt_lt, Int32.le_iff_toInt_le, ← Int32.toInt_inj, Int32.reduceToInt, nI_toInt] at c3 c5 m2MDisIn m5MDisIn; done)
                    | (exfalso; simp (disch := omega) only [Int32.lt_iff_toInt_lt, Int32.le_iff_toInt_le, ← Int32.toInt_inj, Int32.reduceToInt, nI_toInt] at c3 c5 m2MDisIn m5MDisIn; omega)
                · refine jr_ic rfl ?_
                  refine jr_goto rfl ?_
                  refine jr_zret rfl rfl rfl (Nat.zero_le _) (Nat.zero_le _) ?_
                  refine jr_if_eq rfl (fun z => absurd z (by decide)) (fun _ => ?_)
                  refine jr_iload rfl rfl ?_
                  refine jr_ic rfl ?_
                  refine jr_ic rfl ?_
                  refine jr_cs3 (mc' := 0) (ms' := 0) rfl jm_MD_isIn_n jm_MD_isIn_f rfl rfl rfl rfl rfl (Nat.zero_le _) (Nat.zero_le _) ?_
                  show jx_W (jm_MD_isIn, _, _, _, _, _, _) _ 0 0 0 [some _, some _, some _] [] _
                  refine jr_iload rfl rfl ?_
                  refine jr_iload rfl rfl ?_
                  refine jr_icmp_lt rfl (fun m2MDisIn_2 => ?_) (fun m2MDisIn_2 => ?_)
                  · refine jr_ic rfl ?_
                    refine jr_zret rfl rfl rfl (Nat.zero_le _) (Nat.zero_le _) ?_
                    refine jr_if_eq rfl (fun _ => ?_) (fun z => absurd (by decide) z)
                    refine jr_ic rfl ?_
                    refine jr_iret rfl rfl (Nat.zero_le _) (Nat.zero_le _) ?_
                    first
                      | exact ⟨rfl, hRel0⟩
                      | (exfalso; omega)
                      | (exfalso; simp (disch := omega) only [Int32.lt_iff_toInt_lt, Int32.le_iff_toInt_le, ← Int32.toInt_inj, Int32.reduceToInt, nI_toInt] at c3 c5 m2MDisIn m5MDisIn m2MDisIn_2; done)
                      | (exfalso; simp (disch := omega) only [Int32.lt_iff_toInt_lt, Int32.le_iff_toInt_le, ← Int32.toInt_inj, Int32.reduceToInt, nI_toInt] at c3 c5 m2MDisIn m5MDisIn m2MDisIn_2; omega)
                  · refine jr_iload rfl rfl ?_
                    refine jr_iload rfl rfl ?_
                    refine jr_icmp_gt rfl (fun m5MDisIn_2 => ?_) (fun m5MDisIn_2 => ?_)
                    · refine jr_ic rfl ?_
                      refine jr_zret rfl rfl rfl (Nat.zero_le _) (Nat.zero_le _) ?_
                      refine jr_if_eq rfl (fun _ => ?_) (fun z => absurd (by decide) z)
                      refine jr_ic rfl ?_
                      refine jr_iret rfl rfl (Nat.zero_le _) (Nat.zero_le _) ?_
                      first
                        | exact ⟨rfl, hRel0⟩
                        | (exfalso; omega)
                        | (exfalso; simp (disch := omega) only [Int32.lt_iff_toInt_lt, Int32.le_iff_toInt_le, ← Int32.toInt_inj, Int32.reduceToInt, nI_toInt] at c3 c5 m2MDisIn m5MDisIn m2MDisIn_2 m5MDisIn_2; done)
                        | (exfalso; simp (disch := omega) only [Int32.lt_iff_toInt_lt, Int32.le_iff_toInt_le, ← Int32.toInt_inj, Int32.reduceToInt, nI_toInt] at c3 c5 m2MDisIn m5MDisIn m2MDisIn_2 m5MDisIn_2; omega)
                    · refine jr_ic rfl ?_
                      refine jr_goto rfl ?_
                      refine jr_zret rfl rfl rfl (Nat.zero_le _) (Nat.zero_le _) ?_
                      refine jr_if_eq rfl (fun z => absurd z (by decide)) (fun _ => ?_)
                      refine jr_aload rfl rfl ?_
                      refine jr_cv0 (mc' := 0) (ms' := 0) rfl jm_MD_hasMonths_n jm_MD_hasMonths_f rfl rfl rfl rfl rfl rfl rfl (Nat.zero_le _) (Nat.zero_le _) ?_
                      show jx_W (jm_MD_hasMonths, _, _, _, _, _, _) _ 0 0 0 [some _] [] _
                      refine jr_aload rfl rfl ?_
                      refine jr_getR rfl rfl rfl rfl (Or.inl rfl) ?_
                      refine jr_aload rfl rfl ?_
                      refine jr_getI rfl rfl ?_
                      refine jr_iald (len := 2) rfl rfl hw.1 (by omega) ?_
                      refine jr_if_le rfl (fun m5MDhasMonths => ?_) (fun m5MDhasMonths => ?_)
                      · refine jr_ic rfl ?_
                        refine jr_zret rfl rfl rfl (Nat.zero_le _) (Nat.zero_le _) ?_
                        refine jr_if_eq rfl (fun _ => ?_) (fun z => absurd (by decide) z)
                        refine jr_ic rfl ?_
                        refine jr_iret rfl rfl (Nat.zero_le _) (Nat.zero_le _) ?_
                        first
                          | exact ⟨rfl, hRel0⟩
                          | (exfalso; omega)
                          | (exfalso; simp (disch := omega) only [Int32.lt_iff_toInt_lt, Int32.le_iff_toInt_le, ← Int32.toInt_inj, Int32.reduceToInt, nI_toInt] at c3 c5 m2MDisIn m5MDisIn m2MDisIn_2 m5MDisIn_2 m5MDhasMonths; done)
                          | (exfalso; simp (disch := omega) only [Int32.lt_iff_toInt_lt, Int32.le_iff_toInt_le, ← Int32.toInt_inj, Int32.reduceToInt, nI_toInt] at c3 c5 m2MDisIn m5MDisIn m2MDisIn_2 m5MDisIn_2 m5MDhasMonths; omega)
                      · refine jr_ic rfl ?_
                        refine jr_goto rfl ?_
                        refine jr_zret rfl rfl rfl (Nat.zero_le _) (Nat.zero_le _) ?_
                        refine jr_if_eq rfl (fun z => absurd z (by decide)) (fun _ => ?_)
                        refine jr_iload rfl rfl ?_
                        refine jr_ic rfl ?_
                        refine jr_icmp_ne rfl (fun m15 => ?_) (fun m15 => ?_)
                        · refine jr_aload rfl rfl ?_
                          refine jr_cv0 (mc' := 0) (ms' := 0) rfl jm_MD_keepHead_n jm_MD_keepHead_f rfl rfl rfl rfl rfl rfl rfl (Nat.zero_le _) (Nat.zero_le _) ?_
                          first
                            | (exfalso; omega)
                            | (exfalso; simp (disch := omega) only [Int32.lt_iff_toInt_lt, Int32.le_iff_toInt_le, ← Int32.toInt_inj, Int32.reduceToInt, nI_toInt] at c3 c5 m2MDisIn m5MDisIn m2MDisIn_2 m5MDisIn_2 m5MDhasMonths m15; done)
                            | (exfalso; simp (disch := omega) only [Int32.lt_iff_toInt_lt, Int32.le_iff_toInt_le, ← Int32.toInt_inj, Int32.reduceToInt, nI_toInt] at c3 c5 m2MDisIn m5MDisIn m2MDisIn_2 m5MDisIn_2 m5MDhasMonths m15; omega)
                        · refine jr_aload rfl rfl ?_
                          refine jr_iload rfl rfl ?_
                          refine jr_cv1 (mc' := 0) (ms' := 0) rfl jm_MD_isPerson_n jm_MD_isPerson_f rfl rfl rfl rfl rfl rfl rfl (Nat.zero_le _) (Nat.zero_le _) ?_
                          show jx_W (jm_MD_isPerson, _, _, _, _, _, _) _ 0 0 0 [some _, some _] [] _
                          refine jr_iload rfl rfl ?_
                          refine jr_ic rfl ?_
                          refine jr_aload rfl rfl ?_
                          refine jr_cv0 (mc' := 0) (ms' := 0) rfl jm_MD_personMany_n jm_MD_personMany_f rfl rfl rfl rfl rfl rfl rfl (Nat.zero_le _) (Nat.zero_le _) ?_
                          show jx_W (jm_MD_personMany, _, _, _, _, _, _) _ 0 0 0 [some _] [] _
                          refine jr_aload rfl rfl ?_
                          refine jr_getR rfl rfl rfl rfl (Or.inl rfl) ?_
                          refine jr_aload rfl rfl ?_
                          refine jr_getI rfl rfl ?_
                          refine jr_iald (len := 2) rfl rfl hw.1 (by omega) ?_
                          refine jr_iret rfl rfl (Nat.zero_le _) (Nat.zero_le _) ?_
                          refine jr_ic rfl ?_
                          refine jr_isub rfl ?_
                          refine jr_cs3 (mc' := 0) (ms' := 0) rfl jm_MD_isIn_n jm_MD_isIn_f rfl rfl rfl rfl rfl (Nat.zero_le _) (Nat.zero_le _) ?_
                          show jx_W (jm_MD_isIn, _, _, _, _, _, _) _ 0 0 0 [some _, some _, some _] [] _
                          refine jr_iload rfl rfl ?_
                          refine jr_iload rfl rfl ?_
                          refine jr_icmp_lt rfl (fun m2MDisIn_3 => ?_) (fun m2MDisIn_3 => ?_)
                          · refine jr_ic rfl ?_
                            refine jr_zret rfl rfl rfl (Nat.zero_le _) (Nat.zero_le _) ?_
                            refine jr_zret rfl rfl rfl (Nat.zero_le _) (Nat.zero_le _) ?_
                            refine jr_if_ne rfl (fun z => absurd (by decide) z) (fun _ => ?_)
                            refine jr_ic rfl ?_
                            refine jr_iret rfl rfl (Nat.zero_le _) (Nat.zero_le _) ?_
                            first
                              | exact ⟨rfl, hRel0⟩
                              | (exfalso; omega)
                              | (exfalso; simp (disch := omega) only [Int32.lt_iff_toInt_lt, Int32.le_iff_toInt_le, ← Int32.toInt_inj, Int32.reduceToInt, nI_toInt] at c3 c5 m2MDisIn m5MDisIn m2MDisIn_2 m5MDisIn_2 m5MDhasMonths m15 m2MDisIn_3; done)
                              | (exfalso; simp (disch := omega) only [Int32.lt_iff_toInt_lt, Int32.le_iff_toInt_le, ← Int32.toInt_inj, Int32.reduceToInt, nI_toInt] at c3 c5 m2MDisIn m5MDisIn m2MDisIn_2 m5MDisIn_2 m5MDhasMonths m15 m2MDisIn_3; omega)
                          · refine jr_iload rfl rfl ?_
                            refine jr_iload rfl rfl ?_
                            refine jr_icmp_gt rfl (fun m5MDisIn_3 => ?_) (fun m5MDisIn_3 => ?_)
                            · refine jr_ic rfl ?_
                              refine jr_zret rfl rfl rfl (Nat.zero_le _) (Nat.zero_le _) ?_
                              refine jr_zret rfl rfl rfl (Nat.zero_le _) (Nat.zero_le _) ?_
                              refine jr_if_ne rfl (fun z => absurd (by decide) z) (fun _ => ?_)
                              refine jr_ic rfl ?_
                              refine jr_iret rfl rfl (Nat.zero_le _) (Nat.zero_le _) ?_
                              first
                                | exact ⟨rfl, hRel0⟩
                                | (exfalso; omega)
                                | (exfalso; simp (disch := omega) only [Int32.lt_iff_toInt_lt, Int32.le_iff_toInt_le, ← Int32.toInt_inj, Int32.reduceToInt, nI_toInt] at c3 c5 m2MDisIn m5MDisIn m2MDisIn_2 m5MDisIn_2 m5MDhasMonths m15 m2MDisIn_3 m5MDisIn_3; done)
                                | (exfalso; simp (disch := omega) only [Int32.lt_iff_toInt_lt, Int32.le_iff_toInt_le, ← Int32.toInt_inj, Int32.reduceToInt, nI_toInt] at c3 c5 m2MDisIn m5MDisIn m2MDisIn_2 m5MDisIn_2 m5MDhasMonths m15 m2MDisIn_3 m5MDisIn_3; omega)
                            · refine jr_ic rfl ?_
                              refine jr_goto rfl ?_
                              refine jr_zret rfl rfl rfl (Nat.zero_le _) (Nat.zero_le _) ?_
                              refine jr_zret rfl rfl rfl (Nat.zero_le _) (Nat.zero_le _) ?_
                              refine jr_if_ne rfl (fun _ => ?_) (fun z => absurd z (by decide))
                              refine jr_aload rfl rfl ?_
                              refine jr_cv0 (mc' := 0) (ms' := 0) rfl jm_MD_keepHead_n jm_MD_keepHead_f rfl rfl rfl rfl rfl rfl rfl (Nat.zero_le _) (Nat.zero_le _) ?_
                              first
                                | (exfalso; omega)
                                | (exfalso; simp (disch := omega) only [Int32.lt_iff_toInt_lt, Int32.le_iff_toInt_le, ← Int32.toInt_inj, Int32.reduceToInt, nI_toInt] at c3 c5 m2MDisIn m5MDisIn m2MDisIn_2 m5MDisIn_2 m5MDhasMonths m15 m2MDisIn_3 m5MDisIn_3; done)
                                | (exfalso; simp (disch := omega) only [Int32.lt_iff_toInt_lt, Int32.le_iff_toInt_le, ← Int32.toInt_inj, Int32.reduceToInt, nI_toInt] at c3 c5 m2MDisIn m5MDisIn m2MDisIn_2 m5MDisIn_2 m5MDhasMonths m15 m2MDisIn_3 m5MDisIn_3; omega)
            · refine jr_iload rfl rfl ?_
              refine jr_ic rfl ?_
              refine jr_icmp_le rfl (fun c8 => ?_) (fun c8 => ?_)
              · refine jr_iload rfl rfl ?_
                refine jr_tsw rfl ?_
                refine ⟨fun c12 => ?_, fun n12_0 => ?_⟩
                · refine jr_aload rfl rfl ?_
                  refine jr_getR rfl rfl rfl rfl (Or.inl rfl) ?_
                  refine jr_aload rfl rfl ?_
                  refine jr_getR rfl rfl rfl rfl (Or.inl rfl) ?_
                  refine jr_iload rfl rfl ?_
                  refine jr_cv2 (mc' := 0) (ms' := 0) rfl jm_For_daysAhead_n jm_For_daysAhead_f rfl rfl rfl rfl rfl rfl rfl (Nat.zero_le _) (Nat.zero_le _) ?_
                  show jx_W (jm_For_daysAhead, _, _, _, _, _, _) _ 0 0 0 [some _, some _, some _] [] _
                  refine jr_aload rfl rfl ?_
                  refine jr_aload rfl rfl ?_
                  refine jr_iload rfl rfl ?_
                  refine jr_cv2 (mc' := 0) (ms' := 0) rfl jm_For_stepFrom_n jm_For_stepFrom_f rfl rfl rfl rfl rfl rfl rfl (Nat.zero_le _) (Nat.zero_le _) ?_
                  first
                    | (exfalso; omega)
                    | (exfalso; simp (disch := omega) only [Int32.lt_iff_toInt_lt, Int32.le_iff_toInt_le, ← Int32.toInt_inj, Int32.reduceToInt, nI_toInt] at c3 c5 c8 c12; done)
                    | (exfalso; simp (disch := omega) only [Int32.lt_iff_toInt_lt, Int32.le_iff_toInt_le, ← Int32.toInt_inj, Int32.reduceToInt, nI_toInt] at c3 c5 c8 c12; omega)
                · skip
                  refine ⟨fun c12 => ?_, fun n12_1 => ?_⟩
                  · refine jr_aload rfl rfl ?_
                    refine jr_getR rfl rfl rfl rfl (Or.inl rfl) ?_
                    refine jr_aload rfl rfl ?_
                    refine jr_getR rfl rfl rfl rfl (Or.inl rfl) ?_
                    refine jr_iload rfl rfl ?_
                    refine jr_cv2 (mc' := 0) (ms' := 0) rfl jm_For_lapsesAhead_n jm_For_lapsesAhead_f rfl rfl rfl rfl rfl rfl rfl (Nat.zero_le _) (Nat.zero_le _) ?_
                    show jx_W (jm_For_lapsesAhead, _, _, _, _, _, _) _ 0 0 0 [some _, some _, some _, none, none] [] _
                    refine jr_aload rfl rfl ?_
                    refine jr_aload rfl rfl ?_
                    refine jr_iload rfl rfl ?_
                    refine jr_cv2 (mc' := 0) (ms' := 0) rfl jm_For_stepFrom_n jm_For_stepFrom_f rfl rfl rfl rfl rfl rfl rfl (Nat.zero_le _) (Nat.zero_le _) ?_
                    first
                      | (exfalso; omega)
                      | (exfalso; simp (disch := omega) only [Int32.lt_iff_toInt_lt, Int32.le_iff_toInt_le, ← Int32.toInt_inj, Int32.reduceToInt, nI_toInt] at c3 c5 c8 c12; done)
                      | (exfalso; simp (disch := omega) only [Int32.lt_iff_toInt_lt, Int32.le_iff_toInt_le, ← Int32.toInt_inj, Int32.reduceToInt, nI_toInt] at c3 c5 c8 c12; omega)
                  · skip
                    refine ⟨fun c12 => ?_, fun n12_2 => ?_⟩
                    · refine jr_aload rfl rfl ?_
                      refine jr_getM rfl rfl rfl rfl hto ?_
                      refine jr_iload rfl rfl ?_
                      refine jr_cv1 (mc' := 0) (ms' := 0) rfl jm_Rep_hasPerson_n jm_Rep_hasPerson_f rfl rfl rfl rfl rfl rfl rfl (Nat.zero_le _) (Nat.zero_le _) ?_
                      show jx_W (jm_Rep_hasPerson, _, _, _, _, _, _) _ 0 0 0 [some _, some _] [] _
                      refine jr_iload rfl rfl ?_
                      refine jr_if_lt rfl (fun c1RephasPerson => ?_) (fun c1RephasPerson => ?_)
                      · refine jr_ic rfl ?_
                        refine jr_zret rfl rfl rfl (Nat.zero_le _) (Nat.zero_le _) ?_
                        refine jr_if_eq rfl (fun _ => ?_) (fun z => absurd (by decide) z)
                        refine jr_ic rfl ?_
                        refine jr_iret rfl rfl (Nat.zero_le _) (Nat.zero_le _) ?_
                        show jx_W (jm_MD_ahead, d + 40, 0, 0, false, 1, _) _ 0 0 0 [some _, some _, some _, some _, none, none] [] _
                        refine jr_iload rfl rfl ?_
                        refine jr_ic rfl ?_
                        refine jr_ic rfl ?_
                        refine jr_cs3 (mc' := 0) (ms' := 0) rfl jm_MD_isIn_n jm_MD_isIn_f rfl rfl rfl rfl rfl (Nat.zero_le _) (Nat.zero_le _) ?_
                        show jx_W (jm_MD_isIn, _, _, _, _, _, _) _ 0 0 0 [some _, some _, some _] [] _
                        refine jr_iload rfl rfl ?_
                        refine jr_iload rfl rfl ?_
                        refine jr_icmp_lt rfl (fun m2MDisIn => ?_) (fun m2MDisIn => ?_)
                        · refine jr_ic rfl ?_
                          refine jr_zret rfl rfl rfl (Nat.zero_le _) (Nat.zero_le _) ?_
                          refine jr_if_eq rfl (fun _ => ?_) (fun z => absurd (by decide) z)
                          refine jr_ic rfl ?_
                          refine jr_iret rfl rfl (Nat.zero_le _) (Nat.zero_le _) ?_
                          first
                            | exact ⟨rfl, hRel0⟩
                            | (exfalso; omega)
                            | (exfalso; simp (disch := omega) only [Int32.lt_iff_toInt_lt, Int32.le_iff_toInt_le, ← Int32.toInt_inj, Int32.reduceToInt, nI_toInt] at c3 c5 c8 c12 c1RephasPerson m2MDisIn; done)
                            | (exfalso; simp (disch := omega) only [Int32.lt_iff_toInt_lt, Int32.le_iff_toInt_le, ← Int32.toInt_inj, Int32.reduceToInt, nI_toInt] at c3 c5 c8 c12 c1RephasPerson m2MDisIn; omega)
                        · refine jr_iload rfl rfl ?_
                          refine jr_iload rfl rfl ?_
                          refine jr_icmp_gt rfl (fun m5MDisIn => ?_) (fun m5MDisIn => ?_)
                          · refine jr_ic rfl ?_
                            refine jr_zret rfl rfl rfl (Nat.zero_le _) (Nat.zero_le _) ?_
                            refine jr_if_eq rfl (fun _ => ?_) (fun z => absurd (by decide) z)
                            refine jr_ic rfl ?_
                            refine jr_iret rfl rfl (Nat.zero_le _) (Nat.zero_le _) ?_
                            first
                              | exact ⟨rfl, hRel0⟩
                              | (exfalso; omega)
                              | (exfalso; simp (disch := omega) only [Int32.lt_iff_toInt_lt, Int32.le_iff_toInt_le, ← Int32.toInt_inj, Int32.reduceToInt, nI_toInt] at c3 c5 c8 c12 c1RephasPerson m2MDisIn m5MDisIn; done)
                              | (exfalso; simp (disch := omega) only [Int32.lt_iff_toInt_lt, Int32.le_iff_toInt_le, ← Int32.toInt_inj, Int32.reduceToInt, nI_toInt] at c3 c5 c8 c12 c1RephasPerson m2MDisIn m5MDisIn; omega)
                          · refine jr_ic rfl ?_
                            refine jr_goto rfl ?_
                            refine jr_zret rfl rfl rfl (Nat.zero_le _) (Nat.zero_le _) ?_
                            refine jr_if_eq rfl (fun z => absurd z (by decide)) (fun _ => ?_)
                            refine jr_iload rfl rfl ?_
                            refine jr_ic rfl ?_
                            refine jr_ic rfl ?_
                            refine jr_cs3 (mc' := 0) (ms' := 0) rfl jm_MD_isIn_n jm_MD_isIn_f rfl rfl rfl rfl rfl (Nat.zero_le _) (Nat.zero_le _) ?_
                            show jx_W (jm_MD_isIn, _, _, _, _, _, _) _ 0 0 0 [some _, some _, some _] [] _
                            refine jr_iload rfl rfl ?_
                            refine jr_iload rfl rfl ?_
                            refine jr_icmp_lt rfl (fun m2MDisIn_2 => ?_) (fun m2MDisIn_2 => ?_)
                            · refine jr_ic rfl ?_
                              refine jr_zret rfl rfl rfl (Nat.zero_le _) (Nat.zero_le _) ?_
                              refine jr_if_eq rfl (fun _ => ?_) (fun z => absurd (by decide) z)
                              refine jr_ic rfl ?_
                              refine jr_iret rfl rfl (Nat.zero_le _) (Nat.zero_le _) ?_
                              first
                                | exact ⟨rfl, hRel0⟩
                                | (exfalso; omega)
                                | (exfalso; simp (disch := omega) only [Int32.lt_iff_toInt_lt, Int32.le_iff_toInt_le, ← Int32.toInt_inj, Int32.reduceToInt, nI_toInt] at c3 c5 c8 c12 c1RephasPerson m2MDisIn m5MDisIn m2MDisIn_2; done)
                                | (exfalso; simp (disch := omega) only [Int32.lt_iff_toInt_lt, Int32.le_iff_toInt_le, ← Int32.toInt_inj, Int32.reduceToInt, nI_toInt] at c3 c5 c8 c12 c1RephasPerson m2MDisIn m5MDisIn m2MDisIn_2; omega)
                            · refine jr_iload rfl rfl ?_
                              refine jr_iload rfl rfl ?_
                              refine jr_icmp_gt rfl (fun m5MDisIn_2 => ?_) (fun m5MDisIn_2 => ?_)
                              · refine jr_ic rfl ?_
                                refine jr_zret rfl rfl rfl (Nat.zero_le _) (Nat.zero_le _) ?_
                                refine jr_if_eq rfl (fun _ => ?_) (fun z => absurd (by decide) z)
                                refine jr_ic rfl ?_
                                refine jr_iret rfl rfl (Nat.zero_le _) (Nat.zero_le _) ?_
                                first
                                  | exact ⟨rfl, hRel0⟩
                                  | (exfalso; omega)
                                  | (exfalso; simp (disch := omega) only [Int32.lt_iff_toInt_lt, Int32.le_iff_toInt_le, ← Int32.toInt_inj, Int32.reduceToInt, nI_toInt] at c3 c5 c8 c12 c1RephasPerson m2MDisIn m5MDisIn m2MDisIn_2 m5MDisIn_2; done)
                                  | (exfalso; simp (disch := omega) only [Int32.lt_iff_toInt_lt, Int32.le_iff_toInt_le, ← Int32.toInt_inj, Int32.reduceToInt, nI_toInt] at c3 c5 c8 c12 c1RephasPerson m2MDisIn m5MDisIn m2MDisIn_2 m5MDisIn_2; omega)
                              · refine jr_ic rfl ?_
                                refine jr_goto rfl ?_
                                refine jr_zret rfl rfl rfl (Nat.zero_le _) (Nat.zero_le _) ?_
                                refine jr_if_eq rfl (fun z => absurd z (by decide)) (fun _ => ?_)
                                refine jr_aload rfl rfl ?_
                                refine jr_cv0 (mc' := 0) (ms' := 0) rfl jm_MD_hasMonths_n jm_MD_hasMonths_f rfl rfl rfl rfl rfl rfl rfl (Nat.zero_le _) (Nat.zero_le _) ?_
                                show jx_W (jm_MD_hasMonths, _, _, _, _, _, _) _ 0 0 0 [some _] [] _
                                refine jr_aload rfl rfl ?_
                                refine jr_getR rfl rfl rfl rfl (Or.inl rfl) ?_
                                refine jr_aload rfl rfl ?_
                                refine jr_getI rfl rfl ?_
                                refine jr_iald (len := 2) rfl rfl hw.1 (by omega) ?_
                                refine jr_if_le rfl (fun m5MDhasMonths => ?_) (fun m5MDhasMonths => ?_)
                                · refine jr_ic rfl ?_
                                  refine jr_zret rfl rfl rfl (Nat.zero_le _) (Nat.zero_le _) ?_
                                  refine jr_if_eq rfl (fun _ => ?_) (fun z => absurd (by decide) z)
                                  refine jr_ic rfl ?_
                                  refine jr_iret rfl rfl (Nat.zero_le _) (Nat.zero_le _) ?_
                                  first
                                    | exact ⟨rfl, hRel0⟩
                                    | (exfalso; omega)
                                    | (exfalso; simp (disch := omega) only [Int32.lt_iff_toInt_lt, Int32.le_iff_toInt_le, ← Int32.toInt_inj, Int32.reduceToInt, nI_toInt] at c3 c5 c8 c12 c1RephasPerson m2MDisIn m5MDisIn m2MDisIn_2 m5MDisIn_2 m5MDhasMonths; done)
                                    | (exfalso; simp (disch := omega) only [Int32.lt_iff_toInt_lt, Int32.le_iff_toInt_le, ← Int32.toInt_inj, Int32.reduceToInt, nI_toInt] at c3 c5 c8 c12 c1RephasPerson m2MDisIn m5MDisIn m2MDisIn_2 m5MDisIn_2 m5MDhasMonths; omega)
                                · refine jr_ic rfl ?_
                                  refine jr_goto rfl ?_
                                  refine jr_zret rfl rfl rfl (Nat.zero_le _) (Nat.zero_le _) ?_
                                  refine jr_if_eq rfl (fun z => absurd z (by decide)) (fun _ => ?_)
                                  refine jr_iload rfl rfl ?_
                                  refine jr_ic rfl ?_
                                  refine jr_icmp_ne rfl (fun m15 => ?_) (fun m15 => ?_)
                                  · refine jr_aload rfl rfl ?_
                                    refine jr_cv0 (mc' := 0) (ms' := 0) rfl jm_MD_keepHead_n jm_MD_keepHead_f rfl rfl rfl rfl rfl rfl rfl (Nat.zero_le _) (Nat.zero_le _) ?_
                                    first
                                      | (exfalso; omega)
                                      | (exfalso; simp (disch := omega) only [Int32.lt_iff_toInt_lt, Int32.le_iff_toInt_le, ← Int32.toInt_inj, Int32.reduceToInt, nI_toInt] at c3 c5 c8 c12 c1RephasPerson m2MDisIn m5MDisIn m2MDisIn_2 m5MDisIn_2 m5MDhasMonths m15; done)
                                      | (exfalso; simp (disch := omega) only [Int32.lt_iff_toInt_lt, Int32.le_iff_toInt_le, ← Int32.toInt_inj, Int32.reduceToInt, nI_toInt] at c3 c5 c8 c12 c1RephasPerson m2MDisIn m5MDisIn m2MDisIn_2 m5MDisIn_2 m5MDhasMonths m15; omega)
                                  · refine jr_aload rfl rfl ?_
                                    refine jr_iload rfl rfl ?_
                                    refine jr_cv1 (mc' := 0) (ms' := 0) rfl jm_MD_isPerson_n jm_MD_isPerson_f rfl rfl rfl rfl rfl rfl rfl (Nat.zero_le _) (Nat.zero_le _) ?_
                                    show jx_W (jm_MD_isPerson, _, _, _, _, _, _) _ 0 0 0 [some _, some _] [] _
                                    refine jr_iload rfl rfl ?_
                                    refine jr_ic rfl ?_
                                    refine jr_aload rfl rfl ?_
                                    refine jr_cv0 (mc' := 0) (ms' := 0) rfl jm_MD_personMany_n jm_MD_personMany_f rfl rfl rfl rfl rfl rfl rfl (Nat.zero_le _) (Nat.zero_le _) ?_
                                    show jx_W (jm_MD_personMany, _, _, _, _, _, _) _ 0 0 0 [some _] [] _
                                    refine jr_aload rfl rfl ?_
                                    refine jr_getR rfl rfl rfl rfl (Or.inl rfl) ?_
                                    refine jr_aload rfl rfl ?_
                                    refine jr_getI rfl rfl ?_
                                    refine jr_iald (len := 2) rfl rfl hw.1 (by omega) ?_
                                    refine jr_iret rfl rfl (Nat.zero_le _) (Nat.zero_le _) ?_
                                    refine jr_ic rfl ?_
                                    refine jr_isub rfl ?_
                                    refine jr_cs3 (mc' := 0) (ms' := 0) rfl jm_MD_isIn_n jm_MD_isIn_f rfl rfl rfl rfl rfl (Nat.zero_le _) (Nat.zero_le _) ?_
                                    show jx_W (jm_MD_isIn, _, _, _, _, _, _) _ 0 0 0 [some _, some _, some _] [] _
                                    refine jr_iload rfl rfl ?_
                                    refine jr_iload rfl rfl ?_
                                    refine jr_icmp_lt rfl (fun m2MDisIn_3 => ?_) (fun m2MDisIn_3 => ?_)
                                    · refine jr_ic rfl ?_
                                      refine jr_zret rfl rfl rfl (Nat.zero_le _) (Nat.zero_le _) ?_
                                      refine jr_zret rfl rfl rfl (Nat.zero_le _) (Nat.zero_le _) ?_
                                      refine jr_if_ne rfl (fun z => absurd (by decide) z) (fun _ => ?_)
                                      refine jr_ic rfl ?_
                                      refine jr_iret rfl rfl (Nat.zero_le _) (Nat.zero_le _) ?_
                                      first
                                        | exact ⟨rfl, hRel0⟩
                                        | (exfalso; omega)
                                        | (exfalso; simp (disch := omega) only [Int32.lt_iff_toInt_lt, Int32.le_iff_toInt_le, ← Int32.toInt_inj, Int32.reduceToInt, nI_toInt] at c3 c5 c8 c12 c1RephasPerson m2MDisIn m5MDisIn m2MDisIn_2 m5MDisIn_2 m5MDhasMonths m15 m2MDisIn_3; done)
                                        | (exfalso; simp (disch := omega) only [Int32.lt_iff_toInt_lt, Int32.le_iff_toInt_le, ← Int32.toInt_inj, Int32.reduceToInt, nI_toInt] at c3 c5 c8 c12 c1RephasPerson m2MDisIn m5MDisIn m2MDisIn_2 m5MDisIn_2 m5MDhasMonths m15 m2MDisIn_3; omega)
                                    · refine jr_iload rfl rfl ?_
                                      refine jr_iload rfl rfl ?_
                                      refine jr_icmp_gt rfl (fun m5MDisIn_3 => ?_) (fun m5MDisIn_3 => ?_)
                                      · refine jr_ic rfl ?_
                                        refine jr_zret rfl rfl rfl (Nat.zero_le _) (Nat.zero_le _) ?_
                                        refine jr_zret rfl rfl rfl (Nat.zero_le _) (Nat.zero_le _) ?_
                                        refine jr_if_ne rfl (fun z => absurd (by decide) z) (fun _ => ?_)
                                        refine jr_ic rfl ?_
                                        refine jr_iret rfl rfl (Nat.zero_le _) (Nat.zero_le _) ?_
                                        first
                                          | exact ⟨rfl, hRel0⟩
                                          | (exfalso; omega)
                                          | (exfalso; simp (disch := omega) only [Int32.lt_iff_toInt_lt, Int32.le_iff_toInt_le, ← Int32.toInt_inj, Int32.reduceToInt, nI_toInt] at c3 c5 c8 c12 c1RephasPerson m2MDisIn m5MDisIn m2MDisIn_2 m5MDisIn_2 m5MDhasMonths m15 m2MDisIn_3 m5MDisIn_3; done)
                                          | (exfalso; simp (disch := omega) only [Int32.lt_iff_toInt_lt, Int32.le_iff_toInt_le, ← Int32.toInt_inj, Int32.reduceToInt, nI_toInt] at c3 c5 c8 c12 c1RephasPerson m2MDisIn m5MDisIn m2MDisIn_2 m5MDisIn_2 m5MDhasMonths m15 m2MDisIn_3 m5MDisIn_3; omega)
                                      · refine jr_ic rfl ?_
                                        refine jr_goto rfl ?_
                                        refine jr_zret rfl rfl rfl (Nat.zero_le _) (Nat.zero_le _) ?_
                                        refine jr_zret rfl rfl rfl (Nat.zero_le _) (Nat.zero_le _) ?_
                                        refine jr_if_ne rfl (fun _ => ?_) (fun z => absurd z (by decide))
                                        refine jr_aload rfl rfl ?_
                                        refine jr_cv0 (mc' := 0) (ms' := 0) rfl jm_MD_keepHead_n jm_MD_keepHead_f rfl rfl rfl rfl rfl rfl rfl (Nat.zero_le _) (Nat.zero_le _) ?_
                                        first
                                          | (exfalso; omega)
                                          | (exfalso; simp (disch := omega) only [Int32.lt_iff_toInt_lt, Int32.le_iff_toInt_le, ← Int32.toInt_inj, Int32.reduceToInt, nI_toInt] at c3 c5 c8 c12 c1RephasPerson m2MDisIn m5MDisIn m2MDisIn_2 m5MDisIn_2 m5MDhasMonths m15 m2MDisIn_3 m5MDisIn_3; done)
                                          | (exfalso; simp (disch := omega) only [Int32.lt_iff_toInt_lt, Int32.le_iff_toInt_le, ← Int32.toInt_inj, Int32.reduceToInt, nI_toInt] at c3 c5 c8 c12 c1RephasPerson m2MDisIn m5MDisIn m2MDisIn_2 m5MDisIn_2 m5MDhasMonths m15 m2MDisIn_3 m5MDisIn_3; omega)
                      · refine jr_iload rfl rfl ?_
                        refine jr_aload rfl rfl ?_
                        refine jr_getI rfl rfl ?_
                        refine jr_icmp_ge rfl (fun c5RephasPerson => ?_) (fun c5RephasPerson => ?_)
                        · refine jr_ic rfl ?_
                          refine jr_zret rfl rfl rfl (Nat.zero_le _) (Nat.zero_le _) ?_
                          refine jr_if_eq rfl (fun _ => ?_) (fun z => absurd (by decide) z)
                          refine jr_ic rfl ?_
                          refine jr_iret rfl rfl (Nat.zero_le _) (Nat.zero_le _) ?_
                          show jx_W (jm_MD_ahead, d + 40, 0, 0, false, 1, _) _ 0 0 0 [some _, some _, some _, some _, none, none] [] _
                          refine jr_iload rfl rfl ?_
                          refine jr_ic rfl ?_
                          refine jr_ic rfl ?_
                          refine jr_cs3 (mc' := 0) (ms' := 0) rfl jm_MD_isIn_n jm_MD_isIn_f rfl rfl rfl rfl rfl (Nat.zero_le _) (Nat.zero_le _) ?_
                          show jx_W (jm_MD_isIn, _, _, _, _, _, _) _ 0 0 0 [some _, some _, some _] [] _
                          refine jr_iload rfl rfl ?_
                          refine jr_iload rfl rfl ?_
                          refine jr_icmp_lt rfl (fun m2MDisIn => ?_) (fun m2MDisIn => ?_)
                          · refine jr_ic rfl ?_
                            refine jr_zret rfl rfl rfl (Nat.zero_le _) (Nat.zero_le _) ?_
                            refine jr_if_eq rfl (fun _ => ?_) (fun z => absurd (by decide) z)
                            refine jr_ic rfl ?_
                            refine jr_iret rfl rfl (Nat.zero_le _) (Nat.zero_le _) ?_
                            first
                              | exact ⟨rfl, hRel0⟩
                              | (exfalso; omega)
                              | (exfalso; simp (disch := omega) only [Int32.lt_iff_toInt_lt, Int32.le_iff_toInt_le, ← Int32.toInt_inj, Int32.reduceToInt, nI_toInt] at c3 c5 c8 c12 c1RephasPerson c5RephasPerson m2MDisIn; done)
                              | (exfalso; simp (disch := omega) only [Int32.lt_iff_toInt_lt, Int32.le_iff_toInt_le, ← Int32.toInt_inj, Int32.reduceToInt, nI_toInt] at c3 c5 c8 c12 c1RephasPerson c5RephasPerson m2MDisIn; omega)
                          · refine jr_iload rfl rfl ?_
                            refine jr_iload rfl rfl ?_
                            refine jr_icmp_gt rfl (fun m5MDisIn => ?_) (fun m5MDisIn => ?_)
                            · refine jr_ic rfl ?_
                              refine jr_zret rfl rfl rfl (Nat.zero_le _) (Nat.zero_le _) ?_
                              refine jr_if_eq rfl (fun _ => ?_) (fun z => absurd (by decide) z)
                              refine jr_ic rfl ?_
                              refine jr_iret rfl rfl (Nat.zero_le _) (Nat.zero_le _) ?_
                              first
                                | exact ⟨rfl, hRel0⟩
                                | (exfalso; omega)
                                | (exfalso; simp (disch := omega) only [Int32.lt_iff_toInt_lt, Int32.le_iff_toInt_le, ← Int32.toInt_inj, Int32.reduceToInt, nI_toInt] at c3 c5 c8 c12 c1RephasPerson c5RephasPerson m2MDisIn m5MDisIn; done)
                                | (exfalso; simp (disch := omega) only [Int32.lt_iff_toInt_lt, Int32.le_iff_toInt_le, ← Int32.toInt_inj, Int32.reduceToInt, nI_toInt] at c3 c5 c8 c12 c1RephasPerson c5RephasPerson m2MDisIn m5MDisIn; omega)
                            · refine jr_ic rfl ?_
                              refine jr_goto rfl ?_
                              refine jr_zret rfl rfl rfl (Nat.zero_le _) (Nat.zero_le _) ?_
                              refine jr_if_eq rfl (fun z => absurd z (by decide)) (fun _ => ?_)
                              refine jr_iload rfl rfl ?_
                              refine jr_ic rfl ?_
                              refine jr_ic rfl ?_
                              refine jr_cs3 (mc' := 0) (ms' := 0) rfl jm_MD_isIn_n jm_MD_isIn_f rfl rfl rfl rfl rfl (Nat.zero_le _) (Nat.zero_le _) ?_
                              show jx_W (jm_MD_isIn, _, _, _, _, _, _) _ 0 0 0 [some _, some _, some _] [] _
                              refine jr_iload rfl rfl ?_
                              refine jr_iload rfl rfl ?_
                              refine jr_icmp_lt rfl (fun m2MDisIn_2 => ?_) (fun m2MDisIn_2 => ?_)
                              · refine jr_ic rfl ?_
                                refine jr_zret rfl rfl rfl (Nat.zero_le _) (Nat.zero_le _) ?_
                                refine jr_if_eq rfl (fun _ => ?_) (fun z => absurd (by decide) z)
                                refine jr_ic rfl ?_
                                refine jr_iret rfl rfl (Nat.zero_le _) (Nat.zero_le _) ?_
                                first
                                  | exact ⟨rfl, hRel0⟩
                                  | (exfalso; omega)
                                  | (exfalso; simp (disch := omega) only [Int32.lt_iff_toInt_lt, Int32.le_iff_toInt_le, ← Int32.toInt_inj, Int32.reduceToInt, nI_toInt] at c3 c5 c8 c12 c1RephasPerson c5RephasPerson m2MDisIn m5MDisIn m2MDisIn_2; done)
                                  | (exfalso; simp (disch := omega) only [Int32.lt_iff_toInt_lt, Int32.le_iff_toInt_le, ← Int32.toInt_inj, Int32.reduceToInt, nI_toInt] at c3 c5 c8 c12 c1RephasPerson c5RephasPerson m2MDisIn m5MDisIn m2MDisIn_2; omega)
                              · refine jr_iload rfl rfl ?_
                                refine jr_iload rfl rfl ?_
                                refine jr_icmp_gt rfl (fun m5MDisIn_2 => ?_) (fun m5MDisIn_2 => ?_)
                                · refine jr_ic rfl ?_
                                  refine jr_zret rfl rfl rfl (Nat.zero_le _) (Nat.zero_le _) ?_
                                  refine jr_if_eq rfl (fun _ => ?_) (fun z => absurd (by decide) z)
                                  refine jr_ic rfl ?_
                                  refine jr_iret rfl rfl (Nat.zero_le _) (Nat.zero_le _) ?_
                                  first
                                    | exact ⟨rfl, hRel0⟩
                                    | (exfalso; omega)
                                    | (exfalso; simp (disch := omega) only [Int32.lt_iff_toInt_lt, Int32.le_iff_toInt_le, ← Int32.toInt_inj, Int32.reduceToInt, nI_toInt] at c3 c5 c8 c12 c1RephasPerson c5RephasPerson m2MDisIn m5MDisIn m2MDisIn_2 m5MDisIn_2; done)
                                    | (exfalso; simp (disch := omega) only [Int32.lt_iff_toInt_lt, Int32.le_iff_toInt_le, ← Int32.toInt_inj, Int32.reduceToInt, nI_toInt] at c3 c5 c8 c12 c1RephasPerson c5RephasPerson m2MDisIn m5MDisIn m2MDisIn_2 m5MDisIn_2; omega)
                                · refine jr_ic rfl ?_
                                  refine jr_goto rfl ?_
                                  refine jr_zret rfl rfl rfl (Nat.zero_le _) (Nat.zero_le _) ?_
                                  refine jr_if_eq rfl (fun z => absurd z (by decide)) (fun _ => ?_)
                                  refine jr_aload rfl rfl ?_
                                  refine jr_cv0 (mc' := 0) (ms' := 0) rfl jm_MD_hasMonths_n jm_MD_hasMonths_f rfl rfl rfl rfl rfl rfl rfl (Nat.zero_le _) (Nat.zero_le _) ?_
                                  show jx_W (jm_MD_hasMonths, _, _, _, _, _, _) _ 0 0 0 [some _] [] _
                                  refine jr_aload rfl rfl ?_
                                  refine jr_getR rfl rfl rfl rfl (Or.inl rfl) ?_
                                  refine jr_aload rfl rfl ?_
                                  refine jr_getI rfl rfl ?_
                                  refine jr_iald (len := 2) rfl rfl hw.1 (by omega) ?_
                                  refine jr_if_le rfl (fun m5MDhasMonths => ?_) (fun m5MDhasMonths => ?_)
                                  · refine jr_ic rfl ?_
                                    refine jr_zret rfl rfl rfl (Nat.zero_le _) (Nat.zero_le _) ?_
                                    refine jr_if_eq rfl (fun _ => ?_) (fun z => absurd (by decide) z)
                                    refine jr_ic rfl ?_
                                    refine jr_iret rfl rfl (Nat.zero_le _) (Nat.zero_le _) ?_
                                    first
                                      | exact ⟨rfl, hRel0⟩
                                      | (exfalso; omega)
                                      | (exfalso; simp (disch := omega) only [Int32.lt_iff_toInt_lt, Int32.le_iff_toInt_le, ← Int32.toInt_inj, Int32.reduceToInt, nI_toInt] at c3 c5 c8 c12 c1RephasPerson c5RephasPerson m2MDisIn m5MDisIn m2MDisIn_2 m5MDisIn_2 m5MDhasMonths; done)
                                      | (exfalso; simp (disch := omega) only [Int32.lt_iff_toInt_lt, Int32.le_iff_toInt_le, ← Int32.toInt_inj, Int32.reduceToInt, nI_toInt] at c3 c5 c8 c12 c1RephasPerson c5RephasPerson m2MDisIn m5MDisIn m2MDisIn_2 m5MDisIn_2 m5MDhasMonths; omega)
                                  · refine jr_ic rfl ?_
                                    refine jr_goto rfl ?_
                                    refine jr_zret rfl rfl rfl (Nat.zero_le _) (Nat.zero_le _) ?_
                                    refine jr_if_eq rfl (fun z => absurd z (by decide)) (fun _ => ?_)
                                    refine jr_iload rfl rfl ?_
                                    refine jr_ic rfl ?_
                                    refine jr_icmp_ne rfl (fun m15 => ?_) (fun m15 => ?_)
                                    · refine jr_aload rfl rfl ?_
                                      refine jr_cv0 (mc' := 0) (ms' := 0) rfl jm_MD_keepHead_n jm_MD_keepHead_f rfl rfl rfl rfl rfl rfl rfl (Nat.zero_le _) (Nat.zero_le _) ?_
                                      first
                                        | (exfalso; omega)
                                        | (exfalso; simp (disch := omega) only [Int32.lt_iff_toInt_lt, Int32.le_iff_toInt_le, ← Int32.toInt_inj, Int32.reduceToInt, nI_toInt] at c3 c5 c8 c12 c1RephasPerson c5RephasPerson m2MDisIn m5MDisIn m2MDisIn_2 m5MDisIn_2 m5MDhasMonths m15; done)
                                        | (exfalso; simp (disch := omega) only [Int32.lt_iff_toInt_lt, Int32.le_iff_toInt_le, ← Int32.toInt_inj, Int32.reduceToInt, nI_toInt] at c3 c5 c8 c12 c1RephasPerson c5RephasPerson m2MDisIn m5MDisIn m2MDisIn_2 m5MDisIn_2 m5MDhasMonths m15; omega)
                                    · refine jr_aload rfl rfl ?_
                                      refine jr_iload rfl rfl ?_
                                      refine jr_cv1 (mc' := 0) (ms' := 0) rfl jm_MD_isPerson_n jm_MD_isPerson_f rfl rfl rfl rfl rfl rfl rfl (Nat.zero_le _) (Nat.zero_le _) ?_
                                      show jx_W (jm_MD_isPerson, _, _, _, _, _, _) _ 0 0 0 [some _, some _] [] _
                                      refine jr_iload rfl rfl ?_
                                      refine jr_ic rfl ?_
                                      refine jr_aload rfl rfl ?_
                                      refine jr_cv0 (mc' := 0) (ms' := 0) rfl jm_MD_personMany_n jm_MD_personMany_f rfl rfl rfl rfl rfl rfl rfl (Nat.zero_le _) (Nat.zero_le _) ?_
                                      show jx_W (jm_MD_personMany, _, _, _, _, _, _) _ 0 0 0 [some _] [] _
                                      refine jr_aload rfl rfl ?_
                                      refine jr_getR rfl rfl rfl rfl (Or.inl rfl) ?_
                                      refine jr_aload rfl rfl ?_
                                      refine jr_getI rfl rfl ?_
                                      refine jr_iald (len := 2) rfl rfl hw.1 (by omega) ?_
                                      refine jr_iret rfl rfl (Nat.zero_le _) (Nat.zero_le _) ?_
                                      refine jr_ic rfl ?_
                                      refine jr_isub rfl ?_
                                      refine jr_cs3 (mc' := 0) (ms' := 0) rfl jm_MD_isIn_n jm_MD_isIn_f rfl rfl rfl rfl rfl (Nat.zero_le _) (Nat.zero_le _) ?_
                                      show jx_W (jm_MD_isIn, _, _, _, _, _, _) _ 0 0 0 [some _, some _, some _] [] _
                                      refine jr_iload rfl rfl ?_
                                      refine jr_iload rfl rfl ?_
                                      refine jr_icmp_lt rfl (fun m2MDisIn_3 => ?_) (fun m2MDisIn_3 => ?_)
                                      · refine jr_ic rfl ?_
                                        refine jr_zret rfl rfl rfl (Nat.zero_le _) (Nat.zero_le _) ?_
                                        refine jr_zret rfl rfl rfl (Nat.zero_le _) (Nat.zero_le _) ?_
                                        refine jr_if_ne rfl (fun z => absurd (by decide) z) (fun _ => ?_)
                                        refine jr_ic rfl ?_
                                        refine jr_iret rfl rfl (Nat.zero_le _) (Nat.zero_le _) ?_
                                        first
                                          | exact ⟨rfl, hRel0⟩
                                          | (exfalso; omega)
                                          | (exfalso; simp (disch := omega) only [Int32.lt_iff_toInt_lt, Int32.le_iff_toInt_le, ← Int32.toInt_inj, Int32.reduceToInt, nI_toInt] at c3 c5 c8 c12 c1RephasPerson c5RephasPerson m2MDisIn m5MDisIn m2MDisIn_2 m5MDisIn_2 m5MDhasMonths m15 m2MDisIn_3; done)
                                          | (exfalso; simp (disch := omega) only [Int32.lt_iff_toInt_lt, Int32.le_iff_toInt_le, ← Int32.toInt_inj, Int32.reduceToInt, nI_toInt] at c3 c5 c8 c12 c1RephasPerson c5RephasPerson m2MDisIn m5MDisIn m2MDisIn_2 m5MDisIn_2 m5MDhasMonths m15 m2MDisIn_3; omega)
                                      · refine jr_iload rfl rfl ?_
                                        refine jr_iload rfl rfl ?_
                                        refine jr_icmp_gt rfl (fun m5MDisIn_3 => ?_) (fun m5MDisIn_3 => ?_)
                                        · refine jr_ic rfl ?_
                                          refine jr_zret rfl rfl rfl (Nat.zero_le _) (Nat.zero_le _) ?_
                                          refine jr_zret rfl rfl rfl (Nat.zero_le _) (Nat.zero_le _) ?_
                                          refine jr_if_ne rfl (fun z => absurd (by decide) z) (fun _ => ?_)
                                          refine jr_ic rfl ?_
                                          refine jr_iret rfl rfl (Nat.zero_le _) (Nat.zero_le _) ?_
                                          first
                                            | exact ⟨rfl, hRel0⟩
                                            | (exfalso; omega)
                                            | (exfalso; simp (disch := omega) only [Int32.lt_iff_toInt_lt, Int32.le_iff_toInt_le, ← Int32.toInt_inj, Int32.reduceToInt, nI_toInt] at c3 c5 c8 c12 c1RephasPerson c5RephasPerson m2MDisIn m5MDisIn m2MDisIn_2 m5MDisIn_2 m5MDhasMonths m15 m2MDisIn_3 m5MDisIn_3; done)
                                            | (exfalso; simp (disch := omega) only [Int32.lt_iff_toInt_lt, Int32.le_iff_toInt_le, ← Int32.toInt_inj, Int32.reduceToInt, nI_toInt] at c3 c5 c8 c12 c1RephasPerson c5RephasPerson m2MDisIn m5MDisIn m2MDisIn_2 m5MDisIn_2 m5MDhasMonths m15 m2MDisIn_3 m5MDisIn_3; omega)
                                        · refine jr_ic rfl ?_
                                          refine jr_goto rfl ?_
                                          refine jr_zret rfl rfl rfl (Nat.zero_le _) (Nat.zero_le _) ?_
                                          refine jr_zret rfl rfl rfl (Nat.zero_le _) (Nat.zero_le _) ?_
                                          refine jr_if_ne rfl (fun _ => ?_) (fun z => absurd z (by decide))
                                          refine jr_aload rfl rfl ?_
                                          refine jr_cv0 (mc' := 0) (ms' := 0) rfl jm_MD_keepHead_n jm_MD_keepHead_f rfl rfl rfl rfl rfl rfl rfl (Nat.zero_le _) (Nat.zero_le _) ?_
                                          first
                                            | (exfalso; omega)
                                            | (exfalso; simp (disch := omega) only [Int32.lt_iff_toInt_lt, Int32.le_iff_toInt_le, ← Int32.toInt_inj, Int32.reduceToInt, nI_toInt] at c3 c5 c8 c12 c1RephasPerson c5RephasPerson m2MDisIn m5MDisIn m2MDisIn_2 m5MDisIn_2 m5MDhasMonths m15 m2MDisIn_3 m5MDisIn_3; done)
                                            | (exfalso; simp (disch := omega) only [Int32.lt_iff_toInt_lt, Int32.le_iff_toInt_le, ← Int32.toInt_inj, Int32.reduceToInt, nI_toInt] at c3 c5 c8 c12 c1RephasPerson c5RephasPerson m2MDisIn m5MDisIn m2MDisIn_2 m5MDisIn_2 m5MDhasMonths m15 m2MDisIn_3 m5MDisIn_3; omega)
                        · refine jr_ic rfl ?_
                          refine jr_goto rfl ?_
                          refine jr_zret rfl rfl rfl (Nat.zero_le _) (Nat.zero_le _) ?_
                          refine jr_if_eq rfl (fun z => absurd z (by decide)) (fun _ => ?_)
                          refine jr_aload rfl rfl ?_
                          refine jr_getR rfl rfl rfl rfl (Or.inl rfl) ?_
                          refine jr_aload rfl rfl ?_
                          refine jr_getR rfl rfl rfl rfl (Or.inl rfl) ?_
                          refine jr_iload rfl rfl ?_
                          refine jr_iload rfl rfl ?_
                          refine jr_cv3 (mc' := 0) (ms' := 0) rfl jm_For_hadAhead_n jm_For_hadAhead_f rfl rfl rfl rfl rfl rfl rfl (Nat.zero_le _) (Nat.zero_le _) ?_
                          show jx_W (jm_For_hadAhead, _, _, _, _, _, _) _ 0 0 0 [some _, some _, some _, some _] [] _
                          refine jr_aload rfl rfl ?_
                          refine jr_aload rfl rfl ?_
                          refine jr_iload rfl rfl ?_
                          refine jr_cv2 (mc' := 0) (ms' := 0) rfl jm_For_stepFrom_n jm_For_stepFrom_f rfl rfl rfl rfl rfl rfl rfl (Nat.zero_le _) (Nat.zero_le _) ?_
                          first
                            | (exfalso; omega)
                            | (exfalso; simp (disch := omega) only [Int32.lt_iff_toInt_lt, Int32.le_iff_toInt_le, ← Int32.toInt_inj, Int32.reduceToInt, nI_toInt] at c3 c5 c8 c12 c1RephasPerson c5RephasPerson; done)
                            | (exfalso; simp (disch := omega) only [Int32.lt_iff_toInt_lt, Int32.le_iff_toInt_le, ← Int32.toInt_inj, Int32.reduceToInt, nI_toInt] at c3 c5 c8 c12 c1RephasPerson c5RephasPerson; omega)
                    · skip
                      refine jr_ic rfl ?_
                      refine jr_iret rfl rfl (Nat.zero_le _) (Nat.zero_le _) ?_
                      show jx_W (jm_MD_ahead, d + 40, 0, 0, false, 1, _) _ 0 0 0 [some _, some _, some _, some _, none, none] [] _
                      refine jr_iload rfl rfl ?_
                      refine jr_ic rfl ?_
                      refine jr_ic rfl ?_
                      refine jr_cs3 (mc' := 0) (ms' := 0) rfl jm_MD_isIn_n jm_MD_isIn_f rfl rfl rfl rfl rfl (Nat.zero_le _) (Nat.zero_le _) ?_
                      show jx_W (jm_MD_isIn, _, _, _, _, _, _) _ 0 0 0 [some _, some _, some _] [] _
                      refine jr_iload rfl rfl ?_
                      refine jr_iload rfl rfl ?_
                      refine jr_icmp_lt rfl (fun m2MDisIn => ?_) (fun m2MDisIn => ?_)
                      · refine jr_ic rfl ?_
                        refine jr_zret rfl rfl rfl (Nat.zero_le _) (Nat.zero_le _) ?_
                        refine jr_if_eq rfl (fun _ => ?_) (fun z => absurd (by decide) z)
                        refine jr_ic rfl ?_
                        refine jr_iret rfl rfl (Nat.zero_le _) (Nat.zero_le _) ?_
                        first
                          | exact ⟨rfl, hRel0⟩
                          | (exfalso; omega)
                          | (exfalso; simp (disch := omega) only [Int32.lt_iff_toInt_lt, Int32.le_iff_toInt_le, ← Int32.toInt_inj, Int32.reduceToInt, nI_toInt] at c3 c5 c8 m2MDisIn; done)
                          | (exfalso; simp (disch := omega) only [Int32.lt_iff_toInt_lt, Int32.le_iff_toInt_le, ← Int32.toInt_inj, Int32.reduceToInt, nI_toInt] at c3 c5 c8 m2MDisIn; omega)
                      · refine jr_iload rfl rfl ?_
                        refine jr_iload rfl rfl ?_
                        refine jr_icmp_gt rfl (fun m5MDisIn => ?_) (fun m5MDisIn => ?_)
                        · refine jr_ic rfl ?_
                          refine jr_zret rfl rfl rfl (Nat.zero_le _) (Nat.zero_le _) ?_
                          refine jr_if_eq rfl (fun _ => ?_) (fun z => absurd (by decide) z)
                          refine jr_ic rfl ?_
                          refine jr_iret rfl rfl (Nat.zero_le _) (Nat.zero_le _) ?_
                          first
                            | exact ⟨rfl, hRel0⟩
                            | (exfalso; omega)
                            | (exfalso; simp (disch := omega) only [Int32.lt_iff_toInt_lt, Int32.le_iff_toInt_le, ← Int32.toInt_inj, Int32.reduceToInt, nI_toInt] at c3 c5 c8 m2MDisIn m5MDisIn; done)
                            | (exfalso; simp (disch := omega) only [Int32.lt_iff_toInt_lt, Int32.le_iff_toInt_le, ← Int32.toInt_inj, Int32.reduceToInt, nI_toInt] at c3 c5 c8 m2MDisIn m5MDisIn; omega)
                        · refine jr_ic rfl ?_
                          refine jr_goto rfl ?_
                          refine jr_zret rfl rfl rfl (Nat.zero_le _) (Nat.zero_le _) ?_
                          refine jr_if_eq rfl (fun z => absurd z (by decide)) (fun _ => ?_)
                          refine jr_iload rfl rfl ?_
                          refine jr_ic rfl ?_
                          refine jr_ic rfl ?_
                          refine jr_cs3 (mc' := 0) (ms' := 0) rfl jm_MD_isIn_n jm_MD_isIn_f rfl rfl rfl rfl rfl (Nat.zero_le _) (Nat.zero_le _) ?_
                          show jx_W (jm_MD_isIn, _, _, _, _, _, _) _ 0 0 0 [some _, some _, some _] [] _
                          refine jr_iload rfl rfl ?_
                          refine jr_iload rfl rfl ?_
                          refine jr_icmp_lt rfl (fun m2MDisIn_2 => ?_) (fun m2MDisIn_2 => ?_)
                          · refine jr_ic rfl ?_
                            refine jr_zret rfl rfl rfl (Nat.zero_le _) (Nat.zero_le _) ?_
                            refine jr_if_eq rfl (fun _ => ?_) (fun z => absurd (by decide) z)
                            refine jr_ic rfl ?_
                            refine jr_iret rfl rfl (Nat.zero_le _) (Nat.zero_le _) ?_
                            first
                              | exact ⟨rfl, hRel0⟩
                              | (exfalso; omega)
                              | (exfalso; simp (disch := omega) only [Int32.lt_iff_toInt_lt, Int32.le_iff_toInt_le, ← Int32.toInt_inj, Int32.reduceToInt, nI_toInt] at c3 c5 c8 m2MDisIn m5MDisIn m2MDisIn_2; done)
                              | (exfalso; simp (disch := omega) only [Int32.lt_iff_toInt_lt, Int32.le_iff_toInt_le, ← Int32.toInt_inj, Int32.reduceToInt, nI_toInt] at c3 c5 c8 m2MDisIn m5MDisIn m2MDisIn_2; omega)
                          · refine jr_iload rfl rfl ?_
                            refine jr_iload rfl rfl ?_
                            refine jr_icmp_gt rfl (fun m5MDisIn_2 => ?_) (fun m5MDisIn_2 => ?_)
                            · refine jr_ic rfl ?_
                              refine jr_zret rfl rfl rfl (Nat.zero_le _) (Nat.zero_le _) ?_
                              refine jr_if_eq rfl (fun _ => ?_) (fun z => absurd (by decide) z)
                              refine jr_ic rfl ?_
                              refine jr_iret rfl rfl (Nat.zero_le _) (Nat.zero_le _) ?_
                              first
                                | exact ⟨rfl, hRel0⟩
                                | (exfalso; omega)
                                | (exfalso; simp (disch := omega) only [Int32.lt_iff_toInt_lt, Int32.le_iff_toInt_le, ← Int32.toInt_inj, Int32.reduceToInt, nI_toInt] at c3 c5 c8 m2MDisIn m5MDisIn m2MDisIn_2 m5MDisIn_2; done)
                                | (exfalso; simp (disch := omega) only [Int32.lt_iff_toInt_lt, Int32.le_iff_toInt_le, ← Int32.toInt_inj, Int32.reduceToInt, nI_toInt] at c3 c5 c8 m2MDisIn m5MDisIn m2MDisIn_2 m5MDisIn_2; omega)
                            · refine jr_ic rfl ?_
                              refine jr_goto rfl ?_
                              refine jr_zret rfl rfl rfl (Nat.zero_le _) (Nat.zero_le _) ?_
                              refine jr_if_eq rfl (fun z => absurd z (by decide)) (fun _ => ?_)
                              refine jr_aload rfl rfl ?_
                              refine jr_cv0 (mc' := 0) (ms' := 0) rfl jm_MD_hasMonths_n jm_MD_hasMonths_f rfl rfl rfl rfl rfl rfl rfl (Nat.zero_le _) (Nat.zero_le _) ?_
                              show jx_W (jm_MD_hasMonths, _, _, _, _, _, _) _ 0 0 0 [some _] [] _
                              refine jr_aload rfl rfl ?_
                              refine jr_getR rfl rfl rfl rfl (Or.inl rfl) ?_
                              refine jr_aload rfl rfl ?_
                              refine jr_getI rfl rfl ?_
                              refine jr_iald (len := 2) rfl rfl hw.1 (by omega) ?_
                              refine jr_if_le rfl (fun m5MDhasMonths => ?_) (fun m5MDhasMonths => ?_)
                              · refine jr_ic rfl ?_
                                refine jr_zret rfl rfl rfl (Nat.zero_le _) (Nat.zero_le _) ?_
                                refine jr_if_eq rfl (fun _ => ?_) (fun z => absurd (by decide) z)
                                refine jr_ic rfl ?_
                                refine jr_iret rfl rfl (Nat.zero_le _) (Nat.zero_le _) ?_
                                first
                                  | exact ⟨rfl, hRel0⟩
                                  | (exfalso; omega)
                                  | (exfalso; simp (disch := omega) only [Int32.lt_iff_toInt_lt, Int32.le_iff_toInt_le, ← Int32.toInt_inj, Int32.reduceToInt, nI_toInt] at c3 c5 c8 m2MDisIn m5MDisIn m2MDisIn_2 m5MDisIn_2 m5MDhasMonths; done)
                                  | (exfalso; simp (disch := omega) only [Int32.lt_iff_toInt_lt, Int32.le_iff_toInt_le, ← Int32.toInt_inj, Int32.reduceToInt, nI_toInt] at c3 c5 c8 m2MDisIn m5MDisIn m2MDisIn_2 m5MDisIn_2 m5MDhasMonths; omega)
                              · refine jr_ic rfl ?_
                                refine jr_goto rfl ?_
                                refine jr_zret rfl rfl rfl (Nat.zero_le _) (Nat.zero_le _) ?_
                                refine jr_if_eq rfl (fun z => absurd z (by decide)) (fun _ => ?_)
                                refine jr_iload rfl rfl ?_
                                refine jr_ic rfl ?_
                                refine jr_icmp_ne rfl (fun m15 => ?_) (fun m15 => ?_)
                                · refine jr_aload rfl rfl ?_
                                  refine jr_cv0 (mc' := 0) (ms' := 0) rfl jm_MD_keepHead_n jm_MD_keepHead_f rfl rfl rfl rfl rfl rfl rfl (Nat.zero_le _) (Nat.zero_le _) ?_
                                  first
                                    | (exfalso; omega)
                                    | (exfalso; simp (disch := omega) only [Int32.lt_iff_toInt_lt, Int32.le_iff_toInt_le, ← Int32.toInt_inj, Int32.reduceToInt, nI_toInt] at c3 c5 c8 m2MDisIn m5MDisIn m2MDisIn_2 m5MDisIn_2 m5MDhasMonths m15; done)
                                    | (exfalso; simp (disch := omega) only [Int32.lt_iff_toInt_lt, Int32.le_iff_toInt_le, ← Int32.toInt_inj, Int32.reduceToInt, nI_toInt] at c3 c5 c8 m2MDisIn m5MDisIn m2MDisIn_2 m5MDisIn_2 m5MDhasMonths m15; omega)
                                · refine jr_aload rfl rfl ?_
                                  refine jr_iload rfl rfl ?_
                                  refine jr_cv1 (mc' := 0) (ms' := 0) rfl jm_MD_isPerson_n jm_MD_isPerson_f rfl rfl rfl rfl rfl rfl rfl (Nat.zero_le _) (Nat.zero_le _) ?_
                                  show jx_W (jm_MD_isPerson, _, _, _, _, _, _) _ 0 0 0 [some _, some _] [] _
                                  refine jr_iload rfl rfl ?_
                                  refine jr_ic rfl ?_
                                  refine jr_aload rfl rfl ?_
                                  refine jr_cv0 (mc' := 0) (ms' := 0) rfl jm_MD_personMany_n jm_MD_personMany_f rfl rfl rfl rfl rfl rfl rfl (Nat.zero_le _) (Nat.zero_le _) ?_
                                  show jx_W (jm_MD_personMany, _, _, _, _, _, _) _ 0 0 0 [some _] [] _
                                  refine jr_aload rfl rfl ?_
                                  refine jr_getR rfl rfl rfl rfl (Or.inl rfl) ?_
                                  refine jr_aload rfl rfl ?_
                                  refine jr_getI rfl rfl ?_
                                  refine jr_iald (len := 2) rfl rfl hw.1 (by omega) ?_
                                  refine jr_iret rfl rfl (Nat.zero_le _) (Nat.zero_le _) ?_
                                  refine jr_ic rfl ?_
                                  refine jr_isub rfl ?_
                                  refine jr_cs3 (mc' := 0) (ms' := 0) rfl jm_MD_isIn_n jm_MD_isIn_f rfl rfl rfl rfl rfl (Nat.zero_le _) (Nat.zero_le _) ?_
                                  show jx_W (jm_MD_isIn, _, _, _, _, _, _) _ 0 0 0 [some _, some _, some _] [] _
                                  refine jr_iload rfl rfl ?_
                                  refine jr_iload rfl rfl ?_
                                  refine jr_icmp_lt rfl (fun m2MDisIn_3 => ?_) (fun m2MDisIn_3 => ?_)
                                  · refine jr_ic rfl ?_
                                    refine jr_zret rfl rfl rfl (Nat.zero_le _) (Nat.zero_le _) ?_
                                    refine jr_zret rfl rfl rfl (Nat.zero_le _) (Nat.zero_le _) ?_
                                    refine jr_if_ne rfl (fun z => absurd (by decide) z) (fun _ => ?_)
                                    refine jr_ic rfl ?_
                                    refine jr_iret rfl rfl (Nat.zero_le _) (Nat.zero_le _) ?_
                                    first
                                      | exact ⟨rfl, hRel0⟩
                                      | (exfalso; omega)
                                      | (exfalso; simp (disch := omega) only [Int32.lt_iff_toInt_lt, Int32.le_iff_toInt_le, ← Int32.toInt_inj, Int32.reduceToInt, nI_toInt] at c3 c5 c8 m2MDisIn m5MDisIn m2MDisIn_2 m5MDisIn_2 m5MDhasMonths m15 m2MDisIn_3; done)
                                      | (exfalso; simp (disch := omega) only [Int32.lt_iff_toInt_lt, Int32.le_iff_toInt_le, ← Int32.toInt_inj, Int32.reduceToInt, nI_toInt] at c3 c5 c8 m2MDisIn m5MDisIn m2MDisIn_2 m5MDisIn_2 m5MDhasMonths m15 m2MDisIn_3; omega)
                                  · refine jr_iload rfl rfl ?_
                                    refine jr_iload rfl rfl ?_
                                    refine jr_icmp_gt rfl (fun m5MDisIn_3 => ?_) (fun m5MDisIn_3 => ?_)
                                    · refine jr_ic rfl ?_
                                      refine jr_zret rfl rfl rfl (Nat.zero_le _) (Nat.zero_le _) ?_
                                      refine jr_zret rfl rfl rfl (Nat.zero_le _) (Nat.zero_le _) ?_
                                      refine jr_if_ne rfl (fun z => absurd (by decide) z) (fun _ => ?_)
                                      refine jr_ic rfl ?_
                                      refine jr_iret rfl rfl (Nat.zero_le _) (Nat.zero_le _) ?_
                                      first
                                        | exact ⟨rfl, hRel0⟩
                                        | (exfalso; omega)
                                        | (exfalso; simp (disch := omega) only [Int32.lt_iff_toInt_lt, Int32.le_iff_toInt_le, ← Int32.toInt_inj, Int32.reduceToInt, nI_toInt] at c3 c5 c8 m2MDisIn m5MDisIn m2MDisIn_2 m5MDisIn_2 m5MDhasMonths m15 m2MDisIn_3 m5MDisIn_3; done)
                                        | (exfalso; simp (disch := omega) only [Int32.lt_iff_toInt_lt, Int32.le_iff_toInt_le, ← Int32.toInt_inj, Int32.reduceToInt, nI_toInt] at c3 c5 c8 m2MDisIn m5MDisIn m2MDisIn_2 m5MDisIn_2 m5MDhasMonths m15 m2MDisIn_3 m5MDisIn_3; omega)
                                    · refine jr_ic rfl ?_
                                      refine jr_goto rfl ?_
                                      refine jr_zret rfl rfl rfl (Nat.zero_le _) (Nat.zero_le _) ?_
                                      refine jr_zret rfl rfl rfl (Nat.zero_le _) (Nat.zero_le _) ?_
                                      refine jr_if_ne rfl (fun _ => ?_) (fun z => absurd z (by decide))
                                      refine jr_aload rfl rfl ?_
                                      refine jr_cv0 (mc' := 0) (ms' := 0) rfl jm_MD_keepHead_n jm_MD_keepHead_f rfl rfl rfl rfl rfl rfl rfl (Nat.zero_le _) (Nat.zero_le _) ?_
                                      first
                                        | (exfalso; omega)
                                        | (exfalso; simp (disch := omega) only [Int32.lt_iff_toInt_lt, Int32.le_iff_toInt_le, ← Int32.toInt_inj, Int32.reduceToInt, nI_toInt] at c3 c5 c8 m2MDisIn m5MDisIn m2MDisIn_2 m5MDisIn_2 m5MDhasMonths m15 m2MDisIn_3 m5MDisIn_3; done)
                                        | (exfalso; simp (disch := omega) only [Int32.lt_iff_toInt_lt, Int32.le_iff_toInt_le, ← Int32.toInt_inj, Int32.reduceToInt, nI_toInt] at c3 c5 c8 m2MDisIn m5MDisIn m2MDisIn_2 m5MDisIn_2 m5MDhasMonths m15 m2MDisIn_3 m5MDisIn_3; omega)
              · refine jr_ic rfl ?_
                refine jr_iret rfl rfl (Nat.zero_le _) (Nat.zero_le _) ?_
                show jx_W (jm_MD_ahead, d + 40, 0, 0, false, 1, _) _ 0 0 0 [some _, some _, some _, some _, none, none] [] _
                refine jr_iload rfl rfl ?_
                refine jr_ic rfl ?_
                refine jr_ic rfl ?_
                refine jr_cs3 (mc' := 0) (ms' := 0) rfl jm_MD_isIn_n jm_MD_isIn_f rfl rfl rfl rfl rfl (Nat.zero_le _) (Nat.zero_le _) ?_
                show jx_W (jm_MD_isIn, _, _, _, _, _, _) _ 0 0 0 [some _, some _, some _] [] _
                refine jr_iload rfl rfl ?_
                refine jr_iload rfl rfl ?_
                refine jr_icmp_lt rfl (fun m2MDisIn => ?_) (fun m2MDisIn => ?_)
                · refine jr_ic rfl ?_
                  refine jr_zret rfl rfl rfl (Nat.zero_le _) (Nat.zero_le _) ?_
                  refine jr_if_eq rfl (fun _ => ?_) (fun z => absurd (by decide) z)
                  refine jr_ic rfl ?_
                  refine jr_iret rfl rfl (Nat.zero_le _) (Nat.zero_le _) ?_
                  first
                    | exact ⟨rfl, hRel0⟩
                    | (exfalso; omega)
                    | (exfalso; simp (disch := omega) only [Int32.lt_iff_toInt_lt, Int32.le_iff_toInt_le, ← Int32.toInt_inj, Int32.reduceToInt, nI_toInt] at c3 c5 c8 m2MDisIn; done)
                    | (exfalso; simp (disch := omega) only [Int32.lt_iff_toInt_lt, Int32.le_iff_toInt_le, ← Int32.toInt_inj, Int32.reduceToInt, nI_toInt] at c3 c5 c8 m2MDisIn; omega)
                · refine jr_iload rfl rfl ?_
                  refine jr_iload rfl rfl ?_
                  refine jr_icmp_gt rfl (fun m5MDisIn => ?_) (fun m5MDisIn => ?_)
                  · refine jr_ic rfl ?_
                    refine jr_zret rfl rfl rfl (Nat.zero_le _) (Nat.zero_le _) ?_
                    refine jr_if_eq rfl (fun _ => ?_) (fun z => absurd (by decide) z)
                    refine jr_ic rfl ?_
                    refine jr_iret rfl rfl (Nat.zero_le _) (Nat.zero_le _) ?_
                    first
                      | exact ⟨rfl, hRel0⟩
                      | (exfalso; omega)
                      | (exfalso; simp (disch := omega) only [Int32.lt_iff_toInt_lt, Int32.le_iff_toInt_le, ← Int32.toInt_inj, Int32.reduceToInt, nI_toInt] at c3 c5 c8 m2MDisIn m5MDisIn; done)
                      | (exfalso; simp (disch := omega) only [Int32.lt_iff_toInt_lt, Int32.le_iff_toInt_le, ← Int32.toInt_inj, Int32.reduceToInt, nI_toInt] at c3 c5 c8 m2MDisIn m5MDisIn; omega)
                  · refine jr_ic rfl ?_
                    refine jr_goto rfl ?_
                    refine jr_zret rfl rfl rfl (Nat.zero_le _) (Nat.zero_le _) ?_
                    refine jr_if_eq rfl (fun z => absurd z (by decide)) (fun _ => ?_)
                    refine jr_iload rfl rfl ?_
                    refine jr_ic rfl ?_
                    refine jr_ic rfl ?_
                    refine jr_cs3 (mc' := 0) (ms' := 0) rfl jm_MD_isIn_n jm_MD_isIn_f rfl rfl rfl rfl rfl (Nat.zero_le _) (Nat.zero_le _) ?_
                    show jx_W (jm_MD_isIn, _, _, _, _, _, _) _ 0 0 0 [some _, some _, some _] [] _
                    refine jr_iload rfl rfl ?_
                    refine jr_iload rfl rfl ?_
                    refine jr_icmp_lt rfl (fun m2MDisIn_2 => ?_) (fun m2MDisIn_2 => ?_)
                    · refine jr_ic rfl ?_
                      refine jr_zret rfl rfl rfl (Nat.zero_le _) (Nat.zero_le _) ?_
                      refine jr_if_eq rfl (fun _ => ?_) (fun z => absurd (by decide) z)
                      refine jr_ic rfl ?_
                      refine jr_iret rfl rfl (Nat.zero_le _) (Nat.zero_le _) ?_
                      first
                        | exact ⟨rfl, hRel0⟩
                        | (exfalso; omega)
                        | (exfalso; simp (disch := omega) only [Int32.lt_iff_toInt_lt, Int32.le_iff_toInt_le, ← Int32.toInt_inj, Int32.reduceToInt, nI_toInt] at c3 c5 c8 m2MDisIn m5MDisIn m2MDisIn_2; done)
                        | (exfalso; simp (disch := omega) only [Int32.lt_iff_toInt_lt, Int32.le_iff_toInt_le, ← Int32.toInt_inj, Int32.reduceToInt, nI_toInt] at c3 c5 c8 m2MDisIn m5MDisIn m2MDisIn_2; omega)
                    · refine jr_iload rfl rfl ?_
                      refine jr_iload rfl rfl ?_
                      refine jr_icmp_gt rfl (fun m5MDisIn_2 => ?_) (fun m5MDisIn_2 => ?_)
                      · refine jr_ic rfl ?_
                        refine jr_zret rfl rfl rfl (Nat.zero_le _) (Nat.zero_le _) ?_
                        refine jr_if_eq rfl (fun _ => ?_) (fun z => absurd (by decide) z)
                        refine jr_ic rfl ?_
                        refine jr_iret rfl rfl (Nat.zero_le _) (Nat.zero_le _) ?_
                        first
                          | exact ⟨rfl, hRel0⟩
                          | (exfalso; omega)
                          | (exfalso; simp (disch := omega) only [Int32.lt_iff_toInt_lt, Int32.le_iff_toInt_le, ← Int32.toInt_inj, Int32.reduceToInt, nI_toInt] at c3 c5 c8 m2MDisIn m5MDisIn m2MDisIn_2 m5MDisIn_2; done)
                          | (exfalso; simp (disch := omega) only [Int32.lt_iff_toInt_lt, Int32.le_iff_toInt_le, ← Int32.toInt_inj, Int32.reduceToInt, nI_toInt] at c3 c5 c8 m2MDisIn m5MDisIn m2MDisIn_2 m5MDisIn_2; omega)
                      · refine jr_ic rfl ?_
                        refine jr_goto rfl ?_
                        refine jr_zret rfl rfl rfl (Nat.zero_le _) (Nat.zero_le _) ?_
                        refine jr_if_eq rfl (fun z => absurd z (by decide)) (fun _ => ?_)
                        refine jr_aload rfl rfl ?_
                        refine jr_cv0 (mc' := 0) (ms' := 0) rfl jm_MD_hasMonths_n jm_MD_hasMonths_f rfl rfl rfl rfl rfl rfl rfl (Nat.zero_le _) (Nat.zero_le _) ?_
                        show jx_W (jm_MD_hasMonths, _, _, _, _, _, _) _ 0 0 0 [some _] [] _
                        refine jr_aload rfl rfl ?_
                        refine jr_getR rfl rfl rfl rfl (Or.inl rfl) ?_
                        refine jr_aload rfl rfl ?_
                        refine jr_getI rfl rfl ?_
                        refine jr_iald (len := 2) rfl rfl hw.1 (by omega) ?_
                        refine jr_if_le rfl (fun m5MDhasMonths => ?_) (fun m5MDhasMonths => ?_)
                        · refine jr_ic rfl ?_
                          refine jr_zret rfl rfl rfl (Nat.zero_le _) (Nat.zero_le _) ?_
                          refine jr_if_eq rfl (fun _ => ?_) (fun z => absurd (by decide) z)
                          refine jr_ic rfl ?_
                          refine jr_iret rfl rfl (Nat.zero_le _) (Nat.zero_le _) ?_
                          first
                            | exact ⟨rfl, hRel0⟩
                            | (exfalso; omega)
                            | (exfalso; simp (disch := omega) only [Int32.lt_iff_toInt_lt, Int32.le_iff_toInt_le, ← Int32.toInt_inj, Int32.reduceToInt, nI_toInt] at c3 c5 c8 m2MDisIn m5MDisIn m2MDisIn_2 m5MDisIn_2 m5MDhasMonths; done)
                            | (exfalso; simp (disch := omega) only [Int32.lt_iff_toInt_lt, Int32.le_iff_toInt_le, ← Int32.toInt_inj, Int32.reduceToInt, nI_toInt] at c3 c5 c8 m2MDisIn m5MDisIn m2MDisIn_2 m5MDisIn_2 m5MDhasMonths; omega)
                        · refine jr_ic rfl ?_
                          refine jr_goto rfl ?_
                          refine jr_zret rfl rfl rfl (Nat.zero_le _) (Nat.zero_le _) ?_
                          refine jr_if_eq rfl (fun z => absurd z (by decide)) (fun _ => ?_)
                          refine jr_iload rfl rfl ?_
                          refine jr_ic rfl ?_
                          refine jr_icmp_ne rfl (fun m15 => ?_) (fun m15 => ?_)
                          · refine jr_aload rfl rfl ?_
                            refine jr_cv0 (mc' := 0) (ms' := 0) rfl jm_MD_keepHead_n jm_MD_keepHead_f rfl rfl rfl rfl rfl rfl rfl (Nat.zero_le _) (Nat.zero_le _) ?_
                            first
                              | (exfalso; omega)
                              | (exfalso; simp (disch := omega) only [Int32.lt_iff_toInt_lt, Int32.le_iff_toInt_le, ← Int32.toInt_inj, Int32.reduceToInt, nI_toInt] at c3 c5 c8 m2MDisIn m5MDisIn m2MDisIn_2 m5MDisIn_2 m5MDhasMonths m15; done)
                              | (exfalso; simp (disch := omega) only [Int32.lt_iff_toInt_lt, Int32.le_iff_toInt_le, ← Int32.toInt_inj, Int32.reduceToInt, nI_toInt] at c3 c5 c8 m2MDisIn m5MDisIn m2MDisIn_2 m5MDisIn_2 m5MDhasMonths m15; omega)
                          · refine jr_aload rfl rfl ?_
                            refine jr_iload rfl rfl ?_
                            refine jr_cv1 (mc' := 0) (ms' := 0) rfl jm_MD_isPerson_n jm_MD_isPerson_f rfl rfl rfl rfl rfl rfl rfl (Nat.zero_le _) (Nat.zero_le _) ?_
                            show jx_W (jm_MD_isPerson, _, _, _, _, _, _) _ 0 0 0 [some _, some _] [] _
                            refine jr_iload rfl rfl ?_
                            refine jr_ic rfl ?_
                            refine jr_aload rfl rfl ?_
                            refine jr_cv0 (mc' := 0) (ms' := 0) rfl jm_MD_personMany_n jm_MD_personMany_f rfl rfl rfl rfl rfl rfl rfl (Nat.zero_le _) (Nat.zero_le _) ?_
                            show jx_W (jm_MD_personMany, _, _, _, _, _, _) _ 0 0 0 [some _] [] _
                            refine jr_aload rfl rfl ?_
                            refine jr_getR rfl rfl rfl rfl (Or.inl rfl) ?_
                            refine jr_aload rfl rfl ?_
                            refine jr_getI rfl rfl ?_
                            refine jr_iald (len := 2) rfl rfl hw.1 (by omega) ?_
                            refine jr_iret rfl rfl (Nat.zero_le _) (Nat.zero_le _) ?_
                            refine jr_ic rfl ?_
                            refine jr_isub rfl ?_
                            refine jr_cs3 (mc' := 0) (ms' := 0) rfl jm_MD_isIn_n jm_MD_isIn_f rfl rfl rfl rfl rfl (Nat.zero_le _) (Nat.zero_le _) ?_
                            show jx_W (jm_MD_isIn, _, _, _, _, _, _) _ 0 0 0 [some _, some _, some _] [] _
                            refine jr_iload rfl rfl ?_
                            refine jr_iload rfl rfl ?_
                            refine jr_icmp_lt rfl (fun m2MDisIn_3 => ?_) (fun m2MDisIn_3 => ?_)
                            · refine jr_ic rfl ?_
                              refine jr_zret rfl rfl rfl (Nat.zero_le _) (Nat.zero_le _) ?_
                              refine jr_zret rfl rfl rfl (Nat.zero_le _) (Nat.zero_le _) ?_
                              refine jr_if_ne rfl (fun z => absurd (by decide) z) (fun _ => ?_)
                              refine jr_ic rfl ?_
                              refine jr_iret rfl rfl (Nat.zero_le _) (Nat.zero_le _) ?_
                              first
                                | exact ⟨rfl, hRel0⟩
                                | (exfalso; omega)
                                | (exfalso; simp (disch := omega) only [Int32.lt_iff_toInt_lt, Int32.le_iff_toInt_le, ← Int32.toInt_inj, Int32.reduceToInt, nI_toInt] at c3 c5 c8 m2MDisIn m5MDisIn m2MDisIn_2 m5MDisIn_2 m5MDhasMonths m15 m2MDisIn_3; done)
                                | (exfalso; simp (disch := omega) only [Int32.lt_iff_toInt_lt, Int32.le_iff_toInt_le, ← Int32.toInt_inj, Int32.reduceToInt, nI_toInt] at c3 c5 c8 m2MDisIn m5MDisIn m2MDisIn_2 m5MDisIn_2 m5MDhasMonths m15 m2MDisIn_3; omega)
                            · refine jr_iload rfl rfl ?_
                              refine jr_iload rfl rfl ?_
                              refine jr_icmp_gt rfl (fun m5MDisIn_3 => ?_) (fun m5MDisIn_3 => ?_)
                              · refine jr_ic rfl ?_
                                refine jr_zret rfl rfl rfl (Nat.zero_le _) (Nat.zero_le _) ?_
                                refine jr_zret rfl rfl rfl (Nat.zero_le _) (Nat.zero_le _) ?_
                                refine jr_if_ne rfl (fun z => absurd (by decide) z) (fun _ => ?_)
                                refine jr_ic rfl ?_
                                refine jr_iret rfl rfl (Nat.zero_le _) (Nat.zero_le _) ?_
                                first
                                  | exact ⟨rfl, hRel0⟩
                                  | (exfalso; omega)
                                  | (exfalso; simp (disch := omega) only [Int32.lt_iff_toInt_lt, Int32.le_iff_toInt_le, ← Int32.toInt_inj, Int32.reduceToInt, nI_toInt] at c3 c5 c8 m2MDisIn m5MDisIn m2MDisIn_2 m5MDisIn_2 m5MDhasMonths m15 m2MDisIn_3 m5MDisIn_3; done)
                                  | (exfalso; simp (disch := omega) only [Int32.lt_iff_toInt_lt, Int32.le_iff_toInt_le, ← Int32.toInt_inj, Int32.reduceToInt, nI_toInt] at c3 c5 c8 m2MDisIn m5MDisIn m2MDisIn_2 m5MDisIn_2 m5MDhasMonths m15 m2MDisIn_3 m5MDisIn_3; omega)
                              · refine jr_ic rfl ?_
                                refine jr_goto rfl ?_
                                refine jr_zret rfl rfl rfl (Nat.zero_le _) (Nat.zero_le _) ?_
                                refine jr_zret rfl rfl rfl (Nat.zero_le _) (Nat.zero_le _) ?_
                                refine jr_if_ne rfl (fun _ => ?_) (fun z => absurd z (by decide))
                                refine jr_aload rfl rfl ?_
                                refine jr_cv0 (mc' := 0) (ms' := 0) rfl jm_MD_keepHead_n jm_MD_keepHead_f rfl rfl rfl rfl rfl rfl rfl (Nat.zero_le _) (Nat.zero_le _) ?_
                                first
                                  | (exfalso; omega)
                                  | (exfalso; simp (disch := omega) only [Int32.lt_iff_toInt_lt, Int32.le_iff_toInt_le, ← Int32.toInt_inj, Int32.reduceToInt, nI_toInt] at c3 c5 c8 m2MDisIn m5MDisIn m2MDisIn_2 m5MDisIn_2 m5MDhasMonths m15 m2MDisIn_3 m5MDisIn_3; done)
                                  | (exfalso; simp (disch := omega) only [Int32.lt_iff_toInt_lt, Int32.le_iff_toInt_le, ← Int32.toInt_inj, Int32.reduceToInt, nI_toInt] at c3 c5 c8 m2MDisIn m5MDisIn m2MDisIn_2 m5MDisIn_2 m5MDhasMonths m15 m2MDisIn_3 m5MDisIn_3; omega)
  · have hn1 : 0 < jz_nm hm b := by
      rcases Nat.eq_zero_or_pos (jz_nm hm b) with e | e
      · rw [e] at hnm; exact absurd hnm.1 hmo
      · exact e
    show jx_W (jm_JV_ahead, d + 40, 0, 0, false, 0, _) _ 0 0 0 [some (jv_r 10 0), some (jv_i x), some (jv_i y), some (jv_i z)] [] _
    refine jr_aload rfl rfl ?_
    refine jr_getM rfl rfl rfl rfl hto ?_
    refine jr_getI rfl rfl ?_
    refine jr_if_eq rfl (fun c3 => ?_) (fun c3 => ?_)
    · refine jr_ic rfl ?_
      refine jr_iret rfl rfl (Nat.zero_le _) (Nat.zero_le _) ?_
      show jx_W (jm_MD_ahead, d + 40, 0, 0, false, 1, _) _ 0 0 0 [some _, some _, some _, some _, none, none] [] _
      refine jr_iload rfl rfl ?_
      refine jr_ic rfl ?_
      refine jr_ic rfl ?_
      refine jr_cs3 (mc' := 0) (ms' := 0) rfl jm_MD_isIn_n jm_MD_isIn_f rfl rfl rfl rfl rfl (Nat.zero_le _) (Nat.zero_le _) ?_
      show jx_W (jm_MD_isIn, _, _, _, _, _, _) _ 0 0 0 [some _, some _, some _] [] _
      refine jr_iload rfl rfl ?_
      refine jr_iload rfl rfl ?_
      refine jr_icmp_lt rfl (fun m2MDisIn => ?_) (fun m2MDisIn => ?_)
      · refine jr_ic rfl ?_
        refine jr_zret rfl rfl rfl (Nat.zero_le _) (Nat.zero_le _) ?_
        refine jr_if_eq rfl (fun _ => ?_) (fun z => absurd (by decide) z)
        refine jr_ic rfl ?_
        refine jr_iret rfl rfl (Nat.zero_le _) (Nat.zero_le _) ?_
        first
          | exact ⟨rfl, hRel0⟩
          | (exfalso; omega)
          | (exfalso; simp (disch := omega) only [Int32.lt_iff_toInt_lt, Int32.le_iff_toInt_le, ← Int32.toInt_inj, Int32.reduceToInt, nI_toInt] at c3 m2MDisIn; done)
          | (exfalso; simp (disch := omega) only [Int32.lt_iff_toInt_lt, Int32.le_iff_toInt_le, ← Int32.toInt_inj, Int32.reduceToInt, nI_toInt] at c3 m2MDisIn; omega)
      · refine jr_iload rfl rfl ?_
        refine jr_iload rfl rfl ?_
        refine jr_icmp_gt rfl (fun m5MDisIn => ?_) (fun m5MDisIn => ?_)
        · refine jr_ic rfl ?_
          refine jr_zret rfl rfl rfl (Nat.zero_le _) (Nat.zero_le _) ?_
          refine jr_if_eq rfl (fun _ => ?_) (fun z => absurd (by decide) z)
          refine jr_ic rfl ?_
          refine jr_iret rfl rfl (Nat.zero_le _) (Nat.zero_le _) ?_
          first
            | exact ⟨rfl, hRel0⟩
            | (exfalso; omega)
            | (exfalso; simp (disch := omega) only [Int32.lt_iff_toInt_lt, Int32.le_iff_toInt_le, ← Int32.toInt_inj, Int32.reduceToInt, nI_toInt] at c3 m2MDisIn m5MDisIn; done)
            | (exfalso; simp (disch := omega) only [Int32.lt_iff_toInt_lt, Int32.le_iff_toInt_le, ← Int32.toInt_inj, Int32.reduceToInt, nI_toInt] at c3 m2MDisIn m5MDisIn; omega)
        · refine jr_ic rfl ?_
          refine jr_goto rfl ?_
          refine jr_zret rfl rfl rfl (Nat.zero_le _) (Nat.zero_le _) ?_
          refine jr_if_eq rfl (fun z => absurd z (by decide)) (fun _ => ?_)
          refine jr_iload rfl rfl ?_
          refine jr_ic rfl ?_
          refine jr_ic rfl ?_
          refine jr_cs3 (mc' := 0) (ms' := 0) rfl jm_MD_isIn_n jm_MD_isIn_f rfl rfl rfl rfl rfl (Nat.zero_le _) (Nat.zero_le _) ?_
          show jx_W (jm_MD_isIn, _, _, _, _, _, _) _ 0 0 0 [some _, some _, some _] [] _
          refine jr_iload rfl rfl ?_
          refine jr_iload rfl rfl ?_
          refine jr_icmp_lt rfl (fun m2MDisIn_2 => ?_) (fun m2MDisIn_2 => ?_)
          · refine jr_ic rfl ?_
            refine jr_zret rfl rfl rfl (Nat.zero_le _) (Nat.zero_le _) ?_
            refine jr_if_eq rfl (fun _ => ?_) (fun z => absurd (by decide) z)
            refine jr_ic rfl ?_
            refine jr_iret rfl rfl (Nat.zero_le _) (Nat.zero_le _) ?_
            first
              | exact ⟨rfl, hRel0⟩
              | (exfalso; omega)
              | (exfalso; simp (disch := omega) only [Int32.lt_iff_toInt_lt, Int32.le_iff_toInt_le, ← Int32.toInt_inj, Int32.reduceToInt, nI_toInt] at c3 m2MDisIn m5MDisIn m2MDisIn_2; done)
              | (exfalso; simp (disch := omega) only [Int32.lt_iff_toInt_lt, Int32.le_iff_toInt_le, ← Int32.toInt_inj, Int32.reduceToInt, nI_toInt] at c3 m2MDisIn m5MDisIn m2MDisIn_2; omega)
          · refine jr_iload rfl rfl ?_
            refine jr_iload rfl rfl ?_
            refine jr_icmp_gt rfl (fun m5MDisIn_2 => ?_) (fun m5MDisIn_2 => ?_)
            · refine jr_ic rfl ?_
              refine jr_zret rfl rfl rfl (Nat.zero_le _) (Nat.zero_le _) ?_
              refine jr_if_eq rfl (fun _ => ?_) (fun z => absurd (by decide) z)
              refine jr_ic rfl ?_
              refine jr_iret rfl rfl (Nat.zero_le _) (Nat.zero_le _) ?_
              first
                | exact ⟨rfl, hRel0⟩
                | (exfalso; omega)
                | (exfalso; simp (disch := omega) only [Int32.lt_iff_toInt_lt, Int32.le_iff_toInt_le, ← Int32.toInt_inj, Int32.reduceToInt, nI_toInt] at c3 m2MDisIn m5MDisIn m2MDisIn_2 m5MDisIn_2; done)
                | (exfalso; simp (disch := omega) only [Int32.lt_iff_toInt_lt, Int32.le_iff_toInt_le, ← Int32.toInt_inj, Int32.reduceToInt, nI_toInt] at c3 m2MDisIn m5MDisIn m2MDisIn_2 m5MDisIn_2; omega)
            · refine jr_ic rfl ?_
              refine jr_goto rfl ?_
              refine jr_zret rfl rfl rfl (Nat.zero_le _) (Nat.zero_le _) ?_
              refine jr_if_eq rfl (fun z => absurd z (by decide)) (fun _ => ?_)
              refine jr_aload rfl rfl ?_
              refine jr_cv0 (mc' := 0) (ms' := 0) rfl jm_MD_hasMonths_n jm_MD_hasMonths_f rfl rfl rfl rfl rfl rfl rfl (Nat.zero_le _) (Nat.zero_le _) ?_
              show jx_W (jm_MD_hasMonths, _, _, _, _, _, _) _ 0 0 0 [some _] [] _
              refine jr_aload rfl rfl ?_
              refine jr_getR rfl rfl rfl rfl (Or.inl rfl) ?_
              refine jr_aload rfl rfl ?_
              refine jr_getI rfl rfl ?_
              refine jr_iald (len := 2) rfl rfl hw.1 (by omega) ?_
              refine jr_if_le rfl (fun m5MDhasMonths => ?_) (fun m5MDhasMonths => ?_)
              · refine jr_ic rfl ?_
                refine jr_zret rfl rfl rfl (Nat.zero_le _) (Nat.zero_le _) ?_
                refine jr_if_eq rfl (fun _ => ?_) (fun z => absurd (by decide) z)
                refine jr_ic rfl ?_
                refine jr_iret rfl rfl (Nat.zero_le _) (Nat.zero_le _) ?_
                first
                  | exact ⟨rfl, hRel0⟩
                  | (exfalso; omega)
                  | (exfalso; simp (disch := omega) only [Int32.lt_iff_toInt_lt, Int32.le_iff_toInt_le, ← Int32.toInt_inj, Int32.reduceToInt, nI_toInt] at c3 m2MDisIn m5MDisIn m2MDisIn_2 m5MDisIn_2 m5MDhasMonths; done)
                  | (exfalso; simp (disch := omega) only [Int32.lt_iff_toInt_lt, Int32.le_iff_toInt_le, ← Int32.toInt_inj, Int32.reduceToInt, nI_toInt] at c3 m2MDisIn m5MDisIn m2MDisIn_2 m5MDisIn_2 m5MDhasMonths; omega)
              · refine jr_ic rfl ?_
                refine jr_goto rfl ?_
                refine jr_zret rfl rfl rfl (Nat.zero_le _) (Nat.zero_le _) ?_
                refine jr_if_eq rfl (fun z => absurd z (by decide)) (fun _ => ?_)
                refine jr_iload rfl rfl ?_
                refine jr_ic rfl ?_
                refine jr_icmp_ne rfl (fun m15 => ?_) (fun m15 => ?_)
                · refine jr_aload rfl rfl ?_
                  refine jr_cv0 (mc' := 0) (ms' := 0) rfl jm_MD_keepHead_n jm_MD_keepHead_f rfl rfl rfl rfl rfl rfl rfl (Nat.zero_le _) (Nat.zero_le _) ?_
                  first
                    | (exfalso; omega)
                    | (exfalso; simp (disch := omega) only [Int32.lt_iff_toInt_lt, Int32.le_iff_toInt_le, ← Int32.toInt_inj, Int32.reduceToInt, nI_toInt] at c3 m2MDisIn m5MDisIn m2MDisIn_2 m5MDisIn_2 m5MDhasMonths m15; done)
                    | (exfalso; simp (disch := omega) only [Int32.lt_iff_toInt_lt, Int32.le_iff_toInt_le, ← Int32.toInt_inj, Int32.reduceToInt, nI_toInt] at c3 m2MDisIn m5MDisIn m2MDisIn_2 m5MDisIn_2 m5MDhasMonths m15; omega)
                · refine jr_aload rfl rfl ?_
                  refine jr_iload rfl rfl ?_
                  refine jr_cv1 (mc' := 0) (ms' := 0) rfl jm_MD_isPerson_n jm_MD_isPerson_f rfl rfl rfl rfl rfl rfl rfl (Nat.zero_le _) (Nat.zero_le _) ?_
                  show jx_W (jm_MD_isPerson, _, _, _, _, _, _) _ 0 0 0 [some _, some _] [] _
                  refine jr_iload rfl rfl ?_
                  refine jr_ic rfl ?_
                  refine jr_aload rfl rfl ?_
                  refine jr_cv0 (mc' := 0) (ms' := 0) rfl jm_MD_personMany_n jm_MD_personMany_f rfl rfl rfl rfl rfl rfl rfl (Nat.zero_le _) (Nat.zero_le _) ?_
                  show jx_W (jm_MD_personMany, _, _, _, _, _, _) _ 0 0 0 [some _] [] _
                  refine jr_aload rfl rfl ?_
                  refine jr_getR rfl rfl rfl rfl (Or.inl rfl) ?_
                  refine jr_aload rfl rfl ?_
                  refine jr_getI rfl rfl ?_
                  refine jr_iald (len := 2) rfl rfl hw.1 (by omega) ?_
                  refine jr_iret rfl rfl (Nat.zero_le _) (Nat.zero_le _) ?_
                  refine jr_ic rfl ?_
                  refine jr_isub rfl ?_
                  refine jr_cs3 (mc' := 0) (ms' := 0) rfl jm_MD_isIn_n jm_MD_isIn_f rfl rfl rfl rfl rfl (Nat.zero_le _) (Nat.zero_le _) ?_
                  show jx_W (jm_MD_isIn, _, _, _, _, _, _) _ 0 0 0 [some _, some _, some _] [] _
                  refine jr_iload rfl rfl ?_
                  refine jr_iload rfl rfl ?_
                  refine jr_icmp_lt rfl (fun m2MDisIn_3 => ?_) (fun m2MDisIn_3 => ?_)
                  · refine jr_ic rfl ?_
                    refine jr_zret rfl rfl rfl (Nat.zero_le _) (Nat.zero_le _) ?_
                    refine jr_zret rfl rfl rfl (Nat.zero_le _) (Nat.zero_le _) ?_
                    refine jr_if_ne rfl (fun z => absurd (by decide) z) (fun _ => ?_)
                    refine jr_ic rfl ?_
                    refine jr_iret rfl rfl (Nat.zero_le _) (Nat.zero_le _) ?_
                    first
                      | exact ⟨rfl, hRel0⟩
                      | (exfalso; omega)
                      | (exfalso; simp (disch := omega) only [Int32.lt_iff_toInt_lt, Int32.le_iff_toInt_le, ← Int32.toInt_inj, Int32.reduceToInt, nI_toInt] at c3 m2MDisIn m5MDisIn m2MDisIn_2 m5MDisIn_2 m5MDhasMonths m15 m2MDisIn_3; done)
                      | (exfalso; simp (disch := omega) only [Int32.lt_iff_toInt_lt, Int32.le_iff_toInt_le, ← Int32.toInt_inj, Int32.reduceToInt, nI_toInt] at c3 m2MDisIn m5MDisIn m2MDisIn_2 m5MDisIn_2 m5MDhasMonths m15 m2MDisIn_3; omega)
                  · refine jr_iload rfl rfl ?_
                    refine jr_iload rfl rfl ?_
                    refine jr_icmp_gt rfl (fun m5MDisIn_3 => ?_) (fun m5MDisIn_3 => ?_)
                    · refine jr_ic rfl ?_
                      refine jr_zret rfl rfl rfl (Nat.zero_le _) (Nat.zero_le _) ?_
                      refine jr_zret rfl rfl rfl (Nat.zero_le _) (Nat.zero_le _) ?_
                      refine jr_if_ne rfl (fun z => absurd (by decide) z) (fun _ => ?_)
                      refine jr_ic rfl ?_
                      refine jr_iret rfl rfl (Nat.zero_le _) (Nat.zero_le _) ?_
                      first
                        | exact ⟨rfl, hRel0⟩
                        | (exfalso; omega)
                        | (exfalso; simp (disch := omega) only [Int32.lt_iff_toInt_lt, Int32.le_iff_toInt_le, ← Int32.toInt_inj, Int32.reduceToInt, nI_toInt] at c3 m2MDisIn m5MDisIn m2MDisIn_2 m5MDisIn_2 m5MDhasMonths m15 m2MDisIn_3 m5MDisIn_3; done)
                        | (exfalso; simp (disch := omega) only [Int32.lt_iff_toInt_lt, Int32.le_iff_toInt_le, ← Int32.toInt_inj, Int32.reduceToInt, nI_toInt] at c3 m2MDisIn m5MDisIn m2MDisIn_2 m5MDisIn_2 m5MDhasMonths m15 m2MDisIn_3 m5MDisIn_3; omega)
                    · refine jr_ic rfl ?_
                      refine jr_goto rfl ?_
                      refine jr_zret rfl rfl rfl (Nat.zero_le _) (Nat.zero_le _) ?_
                      refine jr_zret rfl rfl rfl (Nat.zero_le _) (Nat.zero_le _) ?_
                      refine jr_if_ne rfl (fun _ => ?_) (fun z => absurd z (by decide))
                      refine jr_aload rfl rfl ?_
                      refine jr_cv0 (mc' := 0) (ms' := 0) rfl jm_MD_keepHead_n jm_MD_keepHead_f rfl rfl rfl rfl rfl rfl rfl (Nat.zero_le _) (Nat.zero_le _) ?_
                      first
                        | (exfalso; omega)
                        | (exfalso; simp (disch := omega) only [Int32.lt_iff_toInt_lt, Int32.le_iff_toInt_le, ← Int32.toInt_inj, Int32.reduceToInt, nI_toInt] at c3 m2MDisIn m5MDisIn m2MDisIn_2 m5MDisIn_2 m5MDhasMonths m15 m2MDisIn_3 m5MDisIn_3; done)
                        | (exfalso; simp (disch := omega) only [Int32.lt_iff_toInt_lt, Int32.le_iff_toInt_le, ← Int32.toInt_inj, Int32.reduceToInt, nI_toInt] at c3 m2MDisIn m5MDisIn m2MDisIn_2 m5MDisIn_2 m5MDhasMonths m15 m2MDisIn_3 m5MDisIn_3; omega)
    · refine jr_iload rfl rfl ?_
      refine jr_if_lt rfl (fun c5 => ?_) (fun c5 => ?_)
      · refine jr_ic rfl ?_
        refine jr_iret rfl rfl (Nat.zero_le _) (Nat.zero_le _) ?_
        show jx_W (jm_MD_ahead, d + 40, 0, 0, false, 1, _) _ 0 0 0 [some _, some _, some _, some _, none, none] [] _
        refine jr_iload rfl rfl ?_
        refine jr_ic rfl ?_
        refine jr_ic rfl ?_
        refine jr_cs3 (mc' := 0) (ms' := 0) rfl jm_MD_isIn_n jm_MD_isIn_f rfl rfl rfl rfl rfl (Nat.zero_le _) (Nat.zero_le _) ?_
        show jx_W (jm_MD_isIn, _, _, _, _, _, _) _ 0 0 0 [some _, some _, some _] [] _
        refine jr_iload rfl rfl ?_
        refine jr_iload rfl rfl ?_
        refine jr_icmp_lt rfl (fun m2MDisIn => ?_) (fun m2MDisIn => ?_)
        · refine jr_ic rfl ?_
          refine jr_zret rfl rfl rfl (Nat.zero_le _) (Nat.zero_le _) ?_
          refine jr_if_eq rfl (fun _ => ?_) (fun z => absurd (by decide) z)
          refine jr_ic rfl ?_
          refine jr_iret rfl rfl (Nat.zero_le _) (Nat.zero_le _) ?_
          first
            | exact ⟨rfl, hRel0⟩
            | (exfalso; omega)
            | (exfalso; simp (disch := omega) only [Int32.lt_iff_toInt_lt, Int32.le_iff_toInt_le, ← Int32.toInt_inj, Int32.reduceToInt, nI_toInt] at c3 c5 m2MDisIn; done)
            | (exfalso; simp (disch := omega) only [Int32.lt_iff_toInt_lt, Int32.le_iff_toInt_le, ← Int32.toInt_inj, Int32.reduceToInt, nI_toInt] at c3 c5 m2MDisIn; omega)
        · refine jr_iload rfl rfl ?_
          refine jr_iload rfl rfl ?_
          refine jr_icmp_gt rfl (fun m5MDisIn => ?_) (fun m5MDisIn => ?_)
          · refine jr_ic rfl ?_
            refine jr_zret rfl rfl rfl (Nat.zero_le _) (Nat.zero_le _) ?_
            refine jr_if_eq rfl (fun _ => ?_) (fun z => absurd (by decide) z)
            refine jr_ic rfl ?_
            refine jr_iret rfl rfl (Nat.zero_le _) (Nat.zero_le _) ?_
            first
              | exact ⟨rfl, hRel0⟩
              | (exfalso; omega)
              | (exfalso; simp (disch := omega) only [Int32.lt_iff_toInt_lt, Int32.le_iff_toInt_le, ← Int32.toInt_inj, Int32.reduceToInt, nI_toInt] at c3 c5 m2MDisIn m5MDisIn; done)
              | (exfalso; simp (disch := omega) only [Int32.lt_iff_toInt_lt, Int32.le_iff_toInt_le, ← Int32.toInt_inj, Int32.reduceToInt, nI_toInt] at c3 c5 m2MDisIn m5MDisIn; omega)
          · refine jr_ic rfl ?_
            refine jr_goto rfl ?_
            refine jr_zret rfl rfl rfl (Nat.zero_le _) (Nat.zero_le _) ?_
            refine jr_if_eq rfl (fun z => absurd z (by decide)) (fun _ => ?_)
            refine jr_iload rfl rfl ?_
            refine jr_ic rfl ?_
            refine jr_ic rfl ?_
            refine jr_cs3 (mc' := 0) (ms' := 0) rfl jm_MD_isIn_n jm_MD_isIn_f rfl rfl rfl rfl rfl (Nat.zero_le _) (Nat.zero_le _) ?_
            show jx_W (jm_MD_isIn, _, _, _, _, _, _) _ 0 0 0 [some _, some _, some _] [] _
            refine jr_iload rfl rfl ?_
            refine jr_iload rfl rfl ?_
            refine jr_icmp_lt rfl (fun m2MDisIn_2 => ?_) (fun m2MDisIn_2 => ?_)
            · refine jr_ic rfl ?_
              refine jr_zret rfl rfl rfl (Nat.zero_le _) (Nat.zero_le _) ?_
              refine jr_if_eq rfl (fun _ => ?_) (fun z => absurd (by decide) z)
              refine jr_ic rfl ?_
              refine jr_iret rfl rfl (Nat.zero_le _) (Nat.zero_le _) ?_
              first
                | exact ⟨rfl, hRel0⟩
                | (exfalso; omega)
                | (exfalso; simp (disch := omega) only [Int32.lt_iff_toInt_lt, Int32.le_iff_toInt_le, ← Int32.toInt_inj, Int32.reduceToInt, nI_toInt] at c3 c5 m2MDisIn m5MDisIn m2MDisIn_2; done)
                | (exfalso; simp (disch := omega) only [Int32.lt_iff_toInt_lt, Int32.le_iff_toInt_le, ← Int32.toInt_inj, Int32.reduceToInt, nI_toInt] at c3 c5 m2MDisIn m5MDisIn m2MDisIn_2; omega)
            · refine jr_iload rfl rfl ?_
              refine jr_iload rfl rfl ?_
              refine jr_icmp_gt rfl (fun m5MDisIn_2 => ?_) (fun m5MDisIn_2 => ?_)
              · refine jr_ic rfl ?_
                refine jr_zret rfl rfl rfl (Nat.zero_le _) (Nat.zero_le _) ?_
                refine jr_if_eq rfl (fun _ => ?_) (fun z => absurd (by decide) z)
                refine jr_ic rfl ?_
                refine jr_iret rfl rfl (Nat.zero_le _) (Nat.zero_le _) ?_
                first
                  | exact ⟨rfl, hRel0⟩
                  | (exfalso; omega)
                  | (exfalso; simp (disch := omega) only [Int32.lt_iff_toInt_lt, Int32.le_iff_toInt_le, ← Int32.toInt_inj, Int32.reduceToInt, nI_toInt] at c3 c5 m2MDisIn m5MDisIn m2MDisIn_2 m5MDisIn_2; done)
                  | (exfalso; simp (disch := omega) only [Int32.lt_iff_toInt_lt, Int32.le_iff_toInt_le, ← Int32.toInt_inj, Int32.reduceToInt, nI_toInt] at c3 c5 m2MDisIn m5MDisIn m2MDisIn_2 m5MDisIn_2; omega)
              · refine jr_ic rfl ?_
                refine jr_goto rfl ?_
                refine jr_zret rfl rfl rfl (Nat.zero_le _) (Nat.zero_le _) ?_
                refine jr_if_eq rfl (fun z => absurd z (by decide)) (fun _ => ?_)
                refine jr_aload rfl rfl ?_
                refine jr_cv0 (mc' := 0) (ms' := 0) rfl jm_MD_hasMonths_n jm_MD_hasMonths_f rfl rfl rfl rfl rfl rfl rfl (Nat.zero_le _) (Nat.zero_le _) ?_
                show jx_W (jm_MD_hasMonths, _, _, _, _, _, _) _ 0 0 0 [some _] [] _
                refine jr_aload rfl rfl ?_
                refine jr_getR rfl rfl rfl rfl (Or.inl rfl) ?_
                refine jr_aload rfl rfl ?_
                refine jr_getI rfl rfl ?_
                refine jr_iald (len := 2) rfl rfl hw.1 (by omega) ?_
                refine jr_if_le rfl (fun m5MDhasMonths => ?_) (fun m5MDhasMonths => ?_)
                · refine jr_ic rfl ?_
                  refine jr_zret rfl rfl rfl (Nat.zero_le _) (Nat.zero_le _) ?_
                  refine jr_if_eq rfl (fun _ => ?_) (fun z => absurd (by decide) z)
                  refine jr_ic rfl ?_
                  refine jr_iret rfl rfl (Nat.zero_le _) (Nat.zero_le _) ?_
                  first
                    | exact ⟨rfl, hRel0⟩
                    | (exfalso; omega)
                    | (exfalso; simp (disch := omega) only [Int32.lt_iff_toInt_lt, Int32.le_iff_toInt_le, ← Int32.toInt_inj, Int32.reduceToInt, nI_toInt] at c3 c5 m2MDisIn m5MDisIn m2MDisIn_2 m5MDisIn_2 m5MDhasMonths; done)
                    | (exfalso; simp (disch := omega) only [Int32.lt_iff_toInt_lt, Int32.le_iff_toInt_le, ← Int32.toInt_inj, Int32.reduceToInt, nI_toInt] at c3 c5 m2MDisIn m5MDisIn m2MDisIn_2 m5MDisIn_2 m5MDhasMonths; omega)
                · refine jr_ic rfl ?_
                  refine jr_goto rfl ?_
                  refine jr_zret rfl rfl rfl (Nat.zero_le _) (Nat.zero_le _) ?_
                  refine jr_if_eq rfl (fun z => absurd z (by decide)) (fun _ => ?_)
                  refine jr_iload rfl rfl ?_
                  refine jr_ic rfl ?_
                  refine jr_icmp_ne rfl (fun m15 => ?_) (fun m15 => ?_)
                  · refine jr_aload rfl rfl ?_
                    refine jr_cv0 (mc' := 0) (ms' := 0) rfl jm_MD_keepHead_n jm_MD_keepHead_f rfl rfl rfl rfl rfl rfl rfl (Nat.zero_le _) (Nat.zero_le _) ?_
                    first
                      | (exfalso; omega)
                      | (exfalso; simp (disch := omega) only [Int32.lt_iff_toInt_lt, Int32.le_iff_toInt_le, ← Int32.toInt_inj, Int32.reduceToInt, nI_toInt] at c3 c5 m2MDisIn m5MDisIn m2MDisIn_2 m5MDisIn_2 m5MDhasMonths m15; done)
                      | (exfalso; simp (disch := omega) only [Int32.lt_iff_toInt_lt, Int32.le_iff_toInt_le, ← Int32.toInt_inj, Int32.reduceToInt, nI_toInt] at c3 c5 m2MDisIn m5MDisIn m2MDisIn_2 m5MDisIn_2 m5MDhasMonths m15; omega)
                  · refine jr_aload rfl rfl ?_
                    refine jr_iload rfl rfl ?_
                    refine jr_cv1 (mc' := 0) (ms' := 0) rfl jm_MD_isPerson_n jm_MD_isPerson_f rfl rfl rfl rfl rfl rfl rfl (Nat.zero_le _) (Nat.zero_le _) ?_
                    show jx_W (jm_MD_isPerson, _, _, _, _, _, _) _ 0 0 0 [some _, some _] [] _
                    refine jr_iload rfl rfl ?_
                    refine jr_ic rfl ?_
                    refine jr_aload rfl rfl ?_
                    refine jr_cv0 (mc' := 0) (ms' := 0) rfl jm_MD_personMany_n jm_MD_personMany_f rfl rfl rfl rfl rfl rfl rfl (Nat.zero_le _) (Nat.zero_le _) ?_
                    show jx_W (jm_MD_personMany, _, _, _, _, _, _) _ 0 0 0 [some _] [] _
                    refine jr_aload rfl rfl ?_
                    refine jr_getR rfl rfl rfl rfl (Or.inl rfl) ?_
                    refine jr_aload rfl rfl ?_
                    refine jr_getI rfl rfl ?_
                    refine jr_iald (len := 2) rfl rfl hw.1 (by omega) ?_
                    refine jr_iret rfl rfl (Nat.zero_le _) (Nat.zero_le _) ?_
                    refine jr_ic rfl ?_
                    refine jr_isub rfl ?_
                    refine jr_cs3 (mc' := 0) (ms' := 0) rfl jm_MD_isIn_n jm_MD_isIn_f rfl rfl rfl rfl rfl (Nat.zero_le _) (Nat.zero_le _) ?_
                    show jx_W (jm_MD_isIn, _, _, _, _, _, _) _ 0 0 0 [some _, some _, some _] [] _
                    refine jr_iload rfl rfl ?_
                    refine jr_iload rfl rfl ?_
                    refine jr_icmp_lt rfl (fun m2MDisIn_3 => ?_) (fun m2MDisIn_3 => ?_)
                    · refine jr_ic rfl ?_
                      refine jr_zret rfl rfl rfl (Nat.zero_le _) (Nat.zero_le _) ?_
                      refine jr_zret rfl rfl rfl (Nat.zero_le _) (Nat.zero_le _) ?_
                      refine jr_if_ne rfl (fun z => absurd (by decide) z) (fun _ => ?_)
                      refine jr_ic rfl ?_
                      refine jr_iret rfl rfl (Nat.zero_le _) (Nat.zero_le _) ?_
                      first
                        | exact ⟨rfl, hRel0⟩
                        | (exfalso; omega)
                        | (exfalso; simp (disch := omega) only [Int32.lt_iff_toInt_lt, Int32.le_iff_toInt_le, ← Int32.toInt_inj, Int32.reduceToInt, nI_toInt] at c3 c5 m2MDisIn m5MDisIn m2MDisIn_2 m5MDisIn_2 m5MDhasMonths m15 m2MDisIn_3; done)
                        | (exfalso; simp (disch := omega) only [Int32.lt_iff_toInt_lt, Int32.le_iff_toInt_le, ← Int32.toInt_inj, Int32.reduceToInt, nI_toInt] at c3 c5 m2MDisIn m5MDisIn m2MDisIn_2 m5MDisIn_2 m5MDhasMonths m15 m2MDisIn_3; omega)
                    · refine jr_iload rfl rfl ?_
                      refine jr_iload rfl rfl ?_
                      refine jr_icmp_gt rfl (fun m5MDisIn_3 => ?_) (fun m5MDisIn_3 => ?_)
                      · refine jr_ic rfl ?_
                        refine jr_zret rfl rfl rfl (Nat.zero_le _) (Nat.zero_le _) ?_
                        refine jr_zret rfl rfl rfl (Nat.zero_le _) (Nat.zero_le _) ?_
                        refine jr_if_ne rfl (fun z => absurd (by decide) z) (fun _ => ?_)
                        refine jr_ic rfl ?_
                        refine jr_iret rfl rfl (Nat.zero_le _) (Nat.zero_le _) ?_
                        first
                          | exact ⟨rfl, hRel0⟩
                          | (exfalso; omega)
                          | (exfalso; simp (disch := omega) only [Int32.lt_iff_toInt_lt, Int32.le_iff_toInt_le, ← Int32.toInt_inj, Int32.reduceToInt, nI_toInt] at c3 c5 m2MDisIn m5MDisIn m2MDisIn_2 m5MDisIn_2 m5MDhasMonths m15 m2MDisIn_3 m5MDisIn_3; done)
                          | (exfalso; simp (disch := omega) only [Int32.lt_iff_toInt_lt, Int32.le_iff_toInt_le, ← Int32.toInt_inj, Int32.reduceToInt, nI_toInt] at c3 c5 m2MDisIn m5MDisIn m2MDisIn_2 m5MDisIn_2 m5MDhasMonths m15 m2MDisIn_3 m5MDisIn_3; omega)
                      · refine jr_ic rfl ?_
                        refine jr_goto rfl ?_
                        refine jr_zret rfl rfl rfl (Nat.zero_le _) (Nat.zero_le _) ?_
                        refine jr_zret rfl rfl rfl (Nat.zero_le _) (Nat.zero_le _) ?_
                        refine jr_if_ne rfl (fun _ => ?_) (fun z => absurd z (by decide))
                        refine jr_aload rfl rfl ?_
                        refine jr_cv0 (mc' := 0) (ms' := 0) rfl jm_MD_keepHead_n jm_MD_keepHead_f rfl rfl rfl rfl rfl rfl rfl (Nat.zero_le _) (Nat.zero_le _) ?_
                        first
                          | (exfalso; omega)
                          | (exfalso; simp (disch := omega) only [Int32.lt_iff_toInt_lt, Int32.le_iff_toInt_le, ← Int32.toInt_inj, Int32.reduceToInt, nI_toInt] at c3 c5 m2MDisIn m5MDisIn m2MDisIn_2 m5MDisIn_2 m5MDhasMonths m15 m2MDisIn_3 m5MDisIn_3; done)
                          | (exfalso; simp (disch := omega) only [Int32.lt_iff_toInt_lt, Int32.le_iff_toInt_le, ← Int32.toInt_inj, Int32.reduceToInt, nI_toInt] at c3 c5 m2MDisIn m5MDisIn m2MDisIn_2 m5MDisIn_2 m5MDhasMonths m15 m2MDisIn_3 m5MDisIn_3; omega)
      · refine jr_iload rfl rfl ?_
        refine jr_ic rfl ?_
        refine jr_icmp_le rfl (fun c8 => ?_) (fun c8 => ?_)
        · refine jr_iload rfl rfl ?_
          refine jr_tsw rfl ?_
          refine ⟨fun c12 => ?_, fun n12_0 => ?_⟩
          · refine jr_aload rfl rfl ?_
            refine jr_getR rfl rfl rfl rfl (Or.inl rfl) ?_
            refine jr_aload rfl rfl ?_
            refine jr_getR rfl rfl rfl rfl (Or.inl rfl) ?_
            refine jr_iload rfl rfl ?_
            refine jr_cv2 (mc' := 0) (ms' := 0) rfl jm_For_daysAhead_n jm_For_daysAhead_f rfl rfl rfl rfl rfl rfl rfl (Nat.zero_le _) (Nat.zero_le _) ?_
            show jx_W (jm_For_daysAhead, _, _, _, _, _, _) _ 0 0 0 [some _, some _, some _] [] _
            refine jr_aload rfl rfl ?_
            refine jr_aload rfl rfl ?_
            refine jr_iload rfl rfl ?_
            refine jr_cv2 (mc' := 0) (ms' := 0) rfl jm_For_stepFrom_n jm_For_stepFrom_f rfl rfl rfl rfl rfl rfl rfl (Nat.zero_le _) (Nat.zero_le _) ?_
            first
              | (exfalso; omega)
              | (exfalso; simp (disch := omega) only [Int32.lt_iff_toInt_lt, Int32.le_iff_toInt_le, ← Int32.toInt_inj, Int32.reduceToInt, nI_toInt] at c3 c5 c8 c12; done)
              | (exfalso; simp (disch := omega) only [Int32.lt_iff_toInt_lt, Int32.le_iff_toInt_le, ← Int32.toInt_inj, Int32.reduceToInt, nI_toInt] at c3 c5 c8 c12; omega)
          · skip
            refine ⟨fun c12 => ?_, fun n12_1 => ?_⟩
            · refine jr_aload rfl rfl ?_
              refine jr_getR rfl rfl rfl rfl (Or.inl rfl) ?_
              refine jr_aload rfl rfl ?_
              refine jr_getR rfl rfl rfl rfl (Or.inl rfl) ?_
              refine jr_iload rfl rfl ?_
              refine jr_cv2 (mc' := 0) (ms' := 0) rfl jm_For_lapsesAhead_n jm_For_lapsesAhead_f rfl rfl rfl rfl rfl rfl rfl (Nat.zero_le _) (Nat.zero_le _) ?_
              show jx_W (jm_For_lapsesAhead, _, _, _, _, _, _) _ 0 0 0 [some _, some _, some _, none, none] [] _
              refine jr_aload rfl rfl ?_
              refine jr_aload rfl rfl ?_
              refine jr_iload rfl rfl ?_
              refine jr_cv2 (mc' := 0) (ms' := 0) rfl jm_For_stepFrom_n jm_For_stepFrom_f rfl rfl rfl rfl rfl rfl rfl (Nat.zero_le _) (Nat.zero_le _) ?_
              first
                | (exfalso; omega)
                | (exfalso; simp (disch := omega) only [Int32.lt_iff_toInt_lt, Int32.le_iff_toInt_le, ← Int32.toInt_inj, Int32.reduceToInt, nI_toInt] at c3 c5 c8 c12; done)
                | (exfalso; simp (disch := omega) only [Int32.lt_iff_toInt_lt, Int32.le_iff_toInt_le, ← Int32.toInt_inj, Int32.reduceToInt, nI_toInt] at c3 c5 c8 c12; omega)
            · skip
              refine ⟨fun c12 => ?_, fun n12_2 => ?_⟩
              · refine jr_aload rfl rfl ?_
                refine jr_getM rfl rfl rfl rfl hto ?_
                refine jr_iload rfl rfl ?_
                refine jr_cv1 (mc' := 0) (ms' := 0) rfl jm_Rep_hasPerson_n jm_Rep_hasPerson_f rfl rfl rfl rfl rfl rfl rfl (Nat.zero_le _) (Nat.zero_le _) ?_
                show jx_W (jm_Rep_hasPerson, _, _, _, _, _, _) _ 0 0 0 [some _, some _] [] _
                refine jr_iload rfl rfl ?_
                refine jr_if_lt rfl (fun c1RephasPerson => ?_) (fun c1RephasPerson => ?_)
                · refine jr_ic rfl ?_
                  refine jr_zret rfl rfl rfl (Nat.zero_le _) (Nat.zero_le _) ?_
                  refine jr_if_eq rfl (fun _ => ?_) (fun z => absurd (by decide) z)
                  refine jr_ic rfl ?_
                  refine jr_iret rfl rfl (Nat.zero_le _) (Nat.zero_le _) ?_
                  show jx_W (jm_MD_ahead, d + 40, 0, 0, false, 1, _) _ 0 0 0 [some _, some _, some _, some _, none, none] [] _
                  refine jr_iload rfl rfl ?_
                  refine jr_ic rfl ?_
                  refine jr_ic rfl ?_
                  refine jr_cs3 (mc' := 0) (ms' := 0) rfl jm_MD_isIn_n jm_MD_isIn_f rfl rfl rfl rfl rfl (Nat.zero_le _) (Nat.zero_le _) ?_
                  show jx_W (jm_MD_isIn, _, _, _, _, _, _) _ 0 0 0 [some _, some _, some _] [] _
                  refine jr_iload rfl rfl ?_
                  refine jr_iload rfl rfl ?_
                  refine jr_icmp_lt rfl (fun m2MDisIn => ?_) (fun m2MDisIn => ?_)
                  · refine jr_ic rfl ?_
                    refine jr_zret rfl rfl rfl (Nat.zero_le _) (Nat.zero_le _) ?_
                    refine jr_if_eq rfl (fun _ => ?_) (fun z => absurd (by decide) z)
                    refine jr_ic rfl ?_
                    refine jr_iret rfl rfl (Nat.zero_le _) (Nat.zero_le _) ?_
                    first
                      | exact ⟨rfl, hRel0⟩
                      | (exfalso; omega)
                      | (exfalso; simp (disch := omega) only [Int32.lt_iff_toInt_lt, Int32.le_iff_toInt_le, ← Int32.toInt_inj, Int32.reduceToInt, nI_toInt] at c3 c5 c8 c12 c1RephasPerson m2MDisIn; done)
                      | (exfalso; simp (disch := omega) only [Int32.lt_iff_toInt_lt, Int32.le_iff_toInt_le, ← Int32.toInt_inj, Int32.reduceToInt, nI_toInt] at c3 c5 c8 c12 c1RephasPerson m2MDisIn; omega)
                  · refine jr_iload rfl rfl ?_
                    refine jr_iload rfl rfl ?_
                    refine jr_icmp_gt rfl (fun m5MDisIn => ?_) (fun m5MDisIn => ?_)
                    · refine jr_ic rfl ?_
                      refine jr_zret rfl rfl rfl (Nat.zero_le _) (Nat.zero_le _) ?_
                      refine jr_if_eq rfl (fun _ => ?_) (fun z => absurd (by decide) z)
                      refine jr_ic rfl ?_
                      refine jr_iret rfl rfl (Nat.zero_le _) (Nat.zero_le _) ?_
                      first
                        | exact ⟨rfl, hRel0⟩
                        | (exfalso; omega)
                        | (exfalso; simp (disch := omega) only [Int32.lt_iff_toInt_lt, Int32.le_iff_toInt_le, ← Int32.toInt_inj, Int32.reduceToInt, nI_toInt] at c3 c5 c8 c12 c1RephasPerson m2MDisIn m5MDisIn; done)
                        | (exfalso; simp (disch := omega) only [Int32.lt_iff_toInt_lt, Int32.le_iff_toInt_le, ← Int32.toInt_inj, Int32.reduceToInt, nI_toInt] at c3 c5 c8 c12 c1RephasPerson m2MDisIn m5MDisIn; omega)
                    · refine jr_ic rfl ?_
                      refine jr_goto rfl ?_
                      refine jr_zret rfl rfl rfl (Nat.zero_le _) (Nat.zero_le _) ?_
                      refine jr_if_eq rfl (fun z => absurd z (by decide)) (fun _ => ?_)
                      refine jr_iload rfl rfl ?_
                      refine jr_ic rfl ?_
                      refine jr_ic rfl ?_
                      refine jr_cs3 (mc' := 0) (ms' := 0) rfl jm_MD_isIn_n jm_MD_isIn_f rfl rfl rfl rfl rfl (Nat.zero_le _) (Nat.zero_le _) ?_
                      show jx_W (jm_MD_isIn, _, _, _, _, _, _) _ 0 0 0 [some _, some _, some _] [] _
                      refine jr_iload rfl rfl ?_
                      refine jr_iload rfl rfl ?_
                      refine jr_icmp_lt rfl (fun m2MDisIn_2 => ?_) (fun m2MDisIn_2 => ?_)
                      · refine jr_ic rfl ?_
                        refine jr_zret rfl rfl rfl (Nat.zero_le _) (Nat.zero_le _) ?_
                        refine jr_if_eq rfl (fun _ => ?_) (fun z => absurd (by decide) z)
                        refine jr_ic rfl ?_
                        refine jr_iret rfl rfl (Nat.zero_le _) (Nat.zero_le _) ?_
                        first
                          | exact ⟨rfl, hRel0⟩
                          | (exfalso; omega)
                          | (exfalso; simp (disch := omega) only [Int32.lt_iff_toInt_lt, Int32.le_iff_toInt_le, ← Int32.toInt_inj, Int32.reduceToInt, nI_toInt] at c3 c5 c8 c12 c1RephasPerson m2MDisIn m5MDisIn m2MDisIn_2; done)
                          | (exfalso; simp (disch := omega) only [Int32.lt_iff_toInt_lt, Int32.le_iff_toInt_le, ← Int32.toInt_inj, Int32.reduceToInt, nI_toInt] at c3 c5 c8 c12 c1RephasPerson m2MDisIn m5MDisIn m2MDisIn_2; omega)
                      · refine jr_iload rfl rfl ?_
                        refine jr_iload rfl rfl ?_
                        refine jr_icmp_gt rfl (fun m5MDisIn_2 => ?_) (fun m5MDisIn_2 => ?_)
                        · refine jr_ic rfl ?_
                          refine jr_zret rfl rfl rfl (Nat.zero_le _) (Nat.zero_le _) ?_
                          refine jr_if_eq rfl (fun _ => ?_) (fun z => absurd (by decide) z)
                          refine jr_ic rfl ?_
                          refine jr_iret rfl rfl (Nat.zero_le _) (Nat.zero_le _) ?_
                          first
                            | exact ⟨rfl, hRel0⟩
                            | (exfalso; omega)
                            | (exfalso; simp (disch := omega) only [Int32.lt_iff_toInt_lt, Int32.le_iff_toInt_le, ← Int32.toInt_inj, Int32.reduceToInt, nI_toInt] at c3 c5 c8 c12 c1RephasPerson m2MDisIn m5MDisIn m2MDisIn_2 m5MDisIn_2; done)
                            | (exfalso; simp (disch := omega) only [Int32.lt_iff_toInt_lt, Int32.le_iff_toInt_le, ← Int32.toInt_inj, Int32.reduceToInt, nI_toInt] at c3 c5 c8 c12 c1RephasPerson m2MDisIn m5MDisIn m2MDisIn_2 m5MDisIn_2; omega)
                        · refine jr_ic rfl ?_
                          refine jr_goto rfl ?_
                          refine jr_zret rfl rfl rfl (Nat.zero_le _) (Nat.zero_le _) ?_
                          refine jr_if_eq rfl (fun z => absurd z (by decide)) (fun _ => ?_)
                          refine jr_aload rfl rfl ?_
                          refine jr_cv0 (mc' := 0) (ms' := 0) rfl jm_MD_hasMonths_n jm_MD_hasMonths_f rfl rfl rfl rfl rfl rfl rfl (Nat.zero_le _) (Nat.zero_le _) ?_
                          show jx_W (jm_MD_hasMonths, _, _, _, _, _, _) _ 0 0 0 [some _] [] _
                          refine jr_aload rfl rfl ?_
                          refine jr_getR rfl rfl rfl rfl (Or.inl rfl) ?_
                          refine jr_aload rfl rfl ?_
                          refine jr_getI rfl rfl ?_
                          refine jr_iald (len := 2) rfl rfl hw.1 (by omega) ?_
                          refine jr_if_le rfl (fun m5MDhasMonths => ?_) (fun m5MDhasMonths => ?_)
                          · refine jr_ic rfl ?_
                            refine jr_zret rfl rfl rfl (Nat.zero_le _) (Nat.zero_le _) ?_
                            refine jr_if_eq rfl (fun _ => ?_) (fun z => absurd (by decide) z)
                            refine jr_ic rfl ?_
                            refine jr_iret rfl rfl (Nat.zero_le _) (Nat.zero_le _) ?_
                            first
                              | exact ⟨rfl, hRel0⟩
                              | (exfalso; omega)
                              | (exfalso; simp (disch := omega) only [Int32.lt_iff_toInt_lt, Int32.le_iff_toInt_le, ← Int32.toInt_inj, Int32.reduceToInt, nI_toInt] at c3 c5 c8 c12 c1RephasPerson m2MDisIn m5MDisIn m2MDisIn_2 m5MDisIn_2 m5MDhasMonths; done)
                              | (exfalso; simp (disch := omega) only [Int32.lt_iff_toInt_lt, Int32.le_iff_toInt_le, ← Int32.toInt_inj, Int32.reduceToInt, nI_toInt] at c3 c5 c8 c12 c1RephasPerson m2MDisIn m5MDisIn m2MDisIn_2 m5MDisIn_2 m5MDhasMonths; omega)
                          · refine jr_ic rfl ?_
                            refine jr_goto rfl ?_
                            refine jr_zret rfl rfl rfl (Nat.zero_le _) (Nat.zero_le _) ?_
                            refine jr_if_eq rfl (fun z => absurd z (by decide)) (fun _ => ?_)
                            refine jr_iload rfl rfl ?_
                            refine jr_ic rfl ?_
                            refine jr_icmp_ne rfl (fun m15 => ?_) (fun m15 => ?_)
                            · refine jr_aload rfl rfl ?_
                              refine jr_cv0 (mc' := 0) (ms' := 0) rfl jm_MD_keepHead_n jm_MD_keepHead_f rfl rfl rfl rfl rfl rfl rfl (Nat.zero_le _) (Nat.zero_le _) ?_
                              first
                                | (exfalso; omega)
                                | (exfalso; simp (disch := omega) only [Int32.lt_iff_toInt_lt, Int32.le_iff_toInt_le, ← Int32.toInt_inj, Int32.reduceToInt, nI_toInt] at c3 c5 c8 c12 c1RephasPerson m2MDisIn m5MDisIn m2MDisIn_2 m5MDisIn_2 m5MDhasMonths m15; done)
                                | (exfalso; simp (disch := omega) only [Int32.lt_iff_toInt_lt, Int32.le_iff_toInt_le, ← Int32.toInt_inj, Int32.reduceToInt, nI_toInt] at c3 c5 c8 c12 c1RephasPerson m2MDisIn m5MDisIn m2MDisIn_2 m5MDisIn_2 m5MDhasMonths m15; omega)
                            · refine jr_aload rfl rfl ?_
                              refine jr_iload rfl rfl ?_
                              refine jr_cv1 (mc' := 0) (ms' := 0) rfl jm_MD_isPerson_n jm_MD_isPerson_f rfl rfl rfl rfl rfl rfl rfl (Nat.zero_le _) (Nat.zero_le _) ?_
                              show jx_W (jm_MD_isPerson, _, _, _, _, _, _) _ 0 0 0 [some _, some _] [] _
                              refine jr_iload rfl rfl ?_
                              refine jr_ic rfl ?_
                              refine jr_aload rfl rfl ?_
                              refine jr_cv0 (mc' := 0) (ms' := 0) rfl jm_MD_personMany_n jm_MD_personMany_f rfl rfl rfl rfl rfl rfl rfl (Nat.zero_le _) (Nat.zero_le _) ?_
                              show jx_W (jm_MD_personMany, _, _, _, _, _, _) _ 0 0 0 [some _] [] _
                              refine jr_aload rfl rfl ?_
                              refine jr_getR rfl rfl rfl rfl (Or.inl rfl) ?_
                              refine jr_aload rfl rfl ?_
                              refine jr_getI rfl rfl ?_
                              refine jr_iald (len := 2) rfl rfl hw.1 (by omega) ?_
                              refine jr_iret rfl rfl (Nat.zero_le _) (Nat.zero_le _) ?_
                              refine jr_ic rfl ?_
                              refine jr_isub rfl ?_
                              refine jr_cs3 (mc' := 0) (ms' := 0) rfl jm_MD_isIn_n jm_MD_isIn_f rfl rfl rfl rfl rfl (Nat.zero_le _) (Nat.zero_le _) ?_
                              show jx_W (jm_MD_isIn, _, _, _, _, _, _) _ 0 0 0 [some _, some _, some _] [] _
                              refine jr_iload rfl rfl ?_
                              refine jr_iload rfl rfl ?_
                              refine jr_icmp_lt rfl (fun m2MDisIn_3 => ?_) (fun m2MDisIn_3 => ?_)
                              · refine jr_ic rfl ?_
                                refine jr_zret rfl rfl rfl (Nat.zero_le _) (Nat.zero_le _) ?_
                                refine jr_zret rfl rfl rfl (Nat.zero_le _) (Nat.zero_le _) ?_
                                refine jr_if_ne rfl (fun z => absurd (by decide) z) (fun _ => ?_)
                                refine jr_ic rfl ?_
                                refine jr_iret rfl rfl (Nat.zero_le _) (Nat.zero_le _) ?_
                                first
                                  | exact ⟨rfl, hRel0⟩
                                  | (exfalso; omega)
                                  | (exfalso; simp (disch := omega) only [Int32.lt_iff_toInt_lt, Int32.le_iff_toInt_le, ← Int32.toInt_inj, Int32.reduceToInt, nI_toInt] at c3 c5 c8 c12 c1RephasPerson m2MDisIn m5MDisIn m2MDisIn_2 m5MDisIn_2 m5MDhasMonths m15 m2MDisIn_3; done)
                                  | (exfalso; simp (disch := omega) only [Int32.lt_iff_toInt_lt, Int32.le_iff_toInt_le, ← Int32.toInt_inj, Int32.reduceToInt, nI_toInt] at c3 c5 c8 c12 c1RephasPerson m2MDisIn m5MDisIn m2MDisIn_2 m5MDisIn_2 m5MDhasMonths m15 m2MDisIn_3; omega)
                              · refine jr_iload rfl rfl ?_
                                refine jr_iload rfl rfl ?_
                                refine jr_icmp_gt rfl (fun m5MDisIn_3 => ?_) (fun m5MDisIn_3 => ?_)
                                · refine jr_ic rfl ?_
                                  refine jr_zret rfl rfl rfl (Nat.zero_le _) (Nat.zero_le _) ?_
                                  refine jr_zret rfl rfl rfl (Nat.zero_le _) (Nat.zero_le _) ?_
                                  refine jr_if_ne rfl (fun z => absurd (by decide) z) (fun _ => ?_)
                                  refine jr_ic rfl ?_
                                  refine jr_iret rfl rfl (Nat.zero_le _) (Nat.zero_le _) ?_
                                  first
                                    | exact ⟨rfl, hRel0⟩
                                    | (exfalso; omega)
                                    | (exfalso; simp (disch := omega) only [Int32.lt_iff_toInt_lt, Int32.le_iff_toInt_le, ← Int32.toInt_inj, Int32.reduceToInt, nI_toInt] at c3 c5 c8 c12 c1RephasPerson m2MDisIn m5MDisIn m2MDisIn_2 m5MDisIn_2 m5MDhasMonths m15 m2MDisIn_3 m5MDisIn_3; done)
                                    | (exfalso; simp (disch := omega) only [Int32.lt_iff_toInt_lt, Int32.le_iff_toInt_le, ← Int32.toInt_inj, Int32.reduceToInt, nI_toInt] at c3 c5 c8 c12 c1RephasPerson m2MDisIn m5MDisIn m2MDisIn_2 m5MDisIn_2 m5MDhasMonths m15 m2MDisIn_3 m5MDisIn_3; omega)
                                · refine jr_ic rfl ?_
                                  refine jr_goto rfl ?_
                                  refine jr_zret rfl rfl rfl (Nat.zero_le _) (Nat.zero_le _) ?_
                                  refine jr_zret rfl rfl rfl (Nat.zero_le _) (Nat.zero_le _) ?_
                                  refine jr_if_ne rfl (fun _ => ?_) (fun z => absurd z (by decide))
                                  refine jr_aload rfl rfl ?_
                                  refine jr_cv0 (mc' := 0) (ms' := 0) rfl jm_MD_keepHead_n jm_MD_keepHead_f rfl rfl rfl rfl rfl rfl rfl (Nat.zero_le _) (Nat.zero_le _) ?_
                                  first
                                    | (exfalso; omega)
                                    | (exfalso; simp (disch := omega) only [Int32.lt_iff_toInt_lt, Int32.le_iff_toInt_le, ← Int32.toInt_inj, Int32.reduceToInt, nI_toInt] at c3 c5 c8 c12 c1RephasPerson m2MDisIn m5MDisIn m2MDisIn_2 m5MDisIn_2 m5MDhasMonths m15 m2MDisIn_3 m5MDisIn_3; done)
                                    | (exfalso; simp (disch := omega) only [Int32.lt_iff_toInt_lt, Int32.le_iff_toInt_le, ← Int32.toInt_inj, Int32.reduceToInt, nI_toInt] at c3 c5 c8 c12 c1RephasPerson m2MDisIn m5MDisIn m2MDisIn_2 m5MDisIn_2 m5MDhasMonths m15 m2MDisIn_3 m5MDisIn_3; omega)
                · refine jr_iload rfl rfl ?_
                  refine jr_aload rfl rfl ?_
                  refine jr_getI rfl rfl ?_
                  refine jr_icmp_ge rfl (fun c5RephasPerson => ?_) (fun c5RephasPerson => ?_)
                  · refine jr_ic rfl ?_
                    refine jr_zret rfl rfl rfl (Nat.zero_le _) (Nat.zero_le _) ?_
                    refine jr_if_eq rfl (fun _ => ?_) (fun z => absurd (by decide) z)
                    refine jr_ic rfl ?_
                    refine jr_iret rfl rfl (Nat.zero_le _) (Nat.zero_le _) ?_
                    show jx_W (jm_MD_ahead, d + 40, 0, 0, false, 1, _) _ 0 0 0 [some _, some _, some _, some _, none, none] [] _
                    refine jr_iload rfl rfl ?_
                    refine jr_ic rfl ?_
                    refine jr_ic rfl ?_
                    refine jr_cs3 (mc' := 0) (ms' := 0) rfl jm_MD_isIn_n jm_MD_isIn_f rfl rfl rfl rfl rfl (Nat.zero_le _) (Nat.zero_le _) ?_
                    show jx_W (jm_MD_isIn, _, _, _, _, _, _) _ 0 0 0 [some _, some _, some _] [] _
                    refine jr_iload rfl rfl ?_
                    refine jr_iload rfl rfl ?_
                    refine jr_icmp_lt rfl (fun m2MDisIn => ?_) (fun m2MDisIn => ?_)
                    · refine jr_ic rfl ?_
                      refine jr_zret rfl rfl rfl (Nat.zero_le _) (Nat.zero_le _) ?_
                      refine jr_if_eq rfl (fun _ => ?_) (fun z => absurd (by decide) z)
                      refine jr_ic rfl ?_
                      refine jr_iret rfl rfl (Nat.zero_le _) (Nat.zero_le _) ?_
                      first
                        | exact ⟨rfl, hRel0⟩
                        | (exfalso; omega)
                        | (exfalso; simp (disch := omega) only [Int32.lt_iff_toInt_lt, Int32.le_iff_toInt_le, ← Int32.toInt_inj, Int32.reduceToInt, nI_toInt] at c3 c5 c8 c12 c1RephasPerson c5RephasPerson m2MDisIn; done)
                        | (exfalso; simp (disch := omega) only [Int32.lt_iff_toInt_lt, Int32.le_iff_toInt_le, ← Int32.toInt_inj, Int32.reduceToInt, nI_toInt] at c3 c5 c8 c12 c1RephasPerson c5RephasPerson m2MDisIn; omega)
                    · refine jr_iload rfl rfl ?_
                      refine jr_iload rfl rfl ?_
                      refine jr_icmp_gt rfl (fun m5MDisIn => ?_) (fun m5MDisIn => ?_)
                      · refine jr_ic rfl ?_
                        refine jr_zret rfl rfl rfl (Nat.zero_le _) (Nat.zero_le _) ?_
                        refine jr_if_eq rfl (fun _ => ?_) (fun z => absurd (by decide) z)
                        refine jr_ic rfl ?_
                        refine jr_iret rfl rfl (Nat.zero_le _) (Nat.zero_le _) ?_
                        first
                          | exact ⟨rfl, hRel0⟩
                          | (exfalso; omega)
                          | (exfalso; simp (disch := omega) only [Int32.lt_iff_toInt_lt, Int32.le_iff_toInt_le, ← Int32.toInt_inj, Int32.reduceToInt, nI_toInt] at c3 c5 c8 c12 c1RephasPerson c5RephasPerson m2MDisIn m5MDisIn; done)
                          | (exfalso; simp (disch := omega) only [Int32.lt_iff_toInt_lt, Int32.le_iff_toInt_le, ← Int32.toInt_inj, Int32.reduceToInt, nI_toInt] at c3 c5 c8 c12 c1RephasPerson c5RephasPerson m2MDisIn m5MDisIn; omega)
                      · refine jr_ic rfl ?_
                        refine jr_goto rfl ?_
                        refine jr_zret rfl rfl rfl (Nat.zero_le _) (Nat.zero_le _) ?_
                        refine jr_if_eq rfl (fun z => absurd z (by decide)) (fun _ => ?_)
                        refine jr_iload rfl rfl ?_
                        refine jr_ic rfl ?_
                        refine jr_ic rfl ?_
                        refine jr_cs3 (mc' := 0) (ms' := 0) rfl jm_MD_isIn_n jm_MD_isIn_f rfl rfl rfl rfl rfl (Nat.zero_le _) (Nat.zero_le _) ?_
                        show jx_W (jm_MD_isIn, _, _, _, _, _, _) _ 0 0 0 [some _, some _, some _] [] _
                        refine jr_iload rfl rfl ?_
                        refine jr_iload rfl rfl ?_
                        refine jr_icmp_lt rfl (fun m2MDisIn_2 => ?_) (fun m2MDisIn_2 => ?_)
                        · refine jr_ic rfl ?_
                          refine jr_zret rfl rfl rfl (Nat.zero_le _) (Nat.zero_le _) ?_
                          refine jr_if_eq rfl (fun _ => ?_) (fun z => absurd (by decide) z)
                          refine jr_ic rfl ?_
                          refine jr_iret rfl rfl (Nat.zero_le _) (Nat.zero_le _) ?_
                          first
                            | exact ⟨rfl, hRel0⟩
                            | (exfalso; omega)
                            | (exfalso; simp (disch := omega) only [Int32.lt_iff_toInt_lt, Int32.le_iff_toInt_le, ← Int32.toInt_inj, Int32.reduceToInt, nI_toInt] at c3 c5 c8 c12 c1RephasPerson c5RephasPerson m2MDisIn m5MDisIn m2MDisIn_2; done)
                            | (exfalso; simp (disch := omega) only [Int32.lt_iff_toInt_lt, Int32.le_iff_toInt_le, ← Int32.toInt_inj, Int32.reduceToInt, nI_toInt] at c3 c5 c8 c12 c1RephasPerson c5RephasPerson m2MDisIn m5MDisIn m2MDisIn_2; omega)
                        · refine jr_iload rfl rfl ?_
                          refine jr_iload rfl rfl ?_
                          refine jr_icmp_gt rfl (fun m5MDisIn_2 => ?_) (fun m5MDisIn_2 => ?_)
                          · refine jr_ic rfl ?_
                            refine jr_zret rfl rfl rfl (Nat.zero_le _) (Nat.zero_le _) ?_
                            refine jr_if_eq rfl (fun _ => ?_) (fun z => absurd (by decide) z)
                            refine jr_ic rfl ?_
                            refine jr_iret rfl rfl (Nat.zero_le _) (Nat.zero_le _) ?_
                            first
                              | exact ⟨rfl, hRel0⟩
                              | (exfalso; omega)
                              | (exfalso; simp (disch := omega) only [Int32.lt_iff_toInt_lt, Int32.le_iff_toInt_le, ← Int32.toInt_inj, Int32.reduceToInt, nI_toInt] at c3 c5 c8 c12 c1RephasPerson c5RephasPerson m2MDisIn m5MDisIn m2MDisIn_2 m5MDisIn_2; done)
                              | (exfalso; simp (disch := omega) only [Int32.lt_iff_toInt_lt, Int32.le_iff_toInt_le, ← Int32.toInt_inj, Int32.reduceToInt, nI_toInt] at c3 c5 c8 c12 c1RephasPerson c5RephasPerson m2MDisIn m5MDisIn m2MDisIn_2 m5MDisIn_2; omega)
                          · refine jr_ic rfl ?_
                            refine jr_goto rfl ?_
                            refine jr_zret rfl rfl rfl (Nat.zero_le _) (Nat.zero_le _) ?_
                            refine jr_if_eq rfl (fun z => absurd z (by decide)) (fun _ => ?_)
                            refine jr_aload rfl rfl ?_
                            refine jr_cv0 (mc' := 0) (ms' := 0) rfl jm_MD_hasMonths_n jm_MD_hasMonths_f rfl rfl rfl rfl rfl rfl rfl (Nat.zero_le _) (Nat.zero_le _) ?_
                            show jx_W (jm_MD_hasMonths, _, _, _, _, _, _) _ 0 0 0 [some _] [] _
                            refine jr_aload rfl rfl ?_
                            refine jr_getR rfl rfl rfl rfl (Or.inl rfl) ?_
                            refine jr_aload rfl rfl ?_
                            refine jr_getI rfl rfl ?_
                            refine jr_iald (len := 2) rfl rfl hw.1 (by omega) ?_
                            refine jr_if_le rfl (fun m5MDhasMonths => ?_) (fun m5MDhasMonths => ?_)
                            · refine jr_ic rfl ?_
                              refine jr_zret rfl rfl rfl (Nat.zero_le _) (Nat.zero_le _) ?_
                              refine jr_if_eq rfl (fun _ => ?_) (fun z => absurd (by decide) z)
                              refine jr_ic rfl ?_
                              refine jr_iret rfl rfl (Nat.zero_le _) (Nat.zero_le _) ?_
                              first
                                | exact ⟨rfl, hRel0⟩
                                | (exfalso; omega)
                                | (exfalso; simp (disch := omega) only [Int32.lt_iff_toInt_lt, Int32.le_iff_toInt_le, ← Int32.toInt_inj, Int32.reduceToInt, nI_toInt] at c3 c5 c8 c12 c1RephasPerson c5RephasPerson m2MDisIn m5MDisIn m2MDisIn_2 m5MDisIn_2 m5MDhasMonths; done)
                                | (exfalso; simp (disch := omega) only [Int32.lt_iff_toInt_lt, Int32.le_iff_toInt_le, ← Int32.toInt_inj, Int32.reduceToInt, nI_toInt] at c3 c5 c8 c12 c1RephasPerson c5RephasPerson m2MDisIn m5MDisIn m2MDisIn_2 m5MDisIn_2 m5MDhasMonths; omega)
                            · refine jr_ic rfl ?_
                              refine jr_goto rfl ?_
                              refine jr_zret rfl rfl rfl (Nat.zero_le _) (Nat.zero_le _) ?_
                              refine jr_if_eq rfl (fun z => absurd z (by decide)) (fun _ => ?_)
                              refine jr_iload rfl rfl ?_
                              refine jr_ic rfl ?_
                              refine jr_icmp_ne rfl (fun m15 => ?_) (fun m15 => ?_)
                              · refine jr_aload rfl rfl ?_
                                refine jr_cv0 (mc' := 0) (ms' := 0) rfl jm_MD_keepHead_n jm_MD_keepHead_f rfl rfl rfl rfl rfl rfl rfl (Nat.zero_le _) (Nat.zero_le _) ?_
                                first
                                  | (exfalso; omega)
                                  | (exfalso; simp (disch := omega) only [Int32.lt_iff_toInt_lt, Int32.le_iff_toInt_le, ← Int32.toInt_inj, Int32.reduceToInt, nI_toInt] at c3 c5 c8 c12 c1RephasPerson c5RephasPerson m2MDisIn m5MDisIn m2MDisIn_2 m5MDisIn_2 m5MDhasMonths m15; done)
                                  | (exfalso; simp (disch := omega) only [Int32.lt_iff_toInt_lt, Int32.le_iff_toInt_le, ← Int32.toInt_inj, Int32.reduceToInt, nI_toInt] at c3 c5 c8 c12 c1RephasPerson c5RephasPerson m2MDisIn m5MDisIn m2MDisIn_2 m5MDisIn_2 m5MDhasMonths m15; omega)
                              · refine jr_aload rfl rfl ?_
                                refine jr_iload rfl rfl ?_
                                refine jr_cv1 (mc' := 0) (ms' := 0) rfl jm_MD_isPerson_n jm_MD_isPerson_f rfl rfl rfl rfl rfl rfl rfl (Nat.zero_le _) (Nat.zero_le _) ?_
                                show jx_W (jm_MD_isPerson, _, _, _, _, _, _) _ 0 0 0 [some _, some _] [] _
                                refine jr_iload rfl rfl ?_
                                refine jr_ic rfl ?_
                                refine jr_aload rfl rfl ?_
                                refine jr_cv0 (mc' := 0) (ms' := 0) rfl jm_MD_personMany_n jm_MD_personMany_f rfl rfl rfl rfl rfl rfl rfl (Nat.zero_le _) (Nat.zero_le _) ?_
                                show jx_W (jm_MD_personMany, _, _, _, _, _, _) _ 0 0 0 [some _] [] _
                                refine jr_aload rfl rfl ?_
                                refine jr_getR rfl rfl rfl rfl (Or.inl rfl) ?_
                                refine jr_aload rfl rfl ?_
                                refine jr_getI rfl rfl ?_
                                refine jr_iald (len := 2) rfl rfl hw.1 (by omega) ?_
                                refine jr_iret rfl rfl (Nat.zero_le _) (Nat.zero_le _) ?_
                                refine jr_ic rfl ?_
                                refine jr_isub rfl ?_
                                refine jr_cs3 (mc' := 0) (ms' := 0) rfl jm_MD_isIn_n jm_MD_isIn_f rfl rfl rfl rfl rfl (Nat.zero_le _) (Nat.zero_le _) ?_
                                show jx_W (jm_MD_isIn, _, _, _, _, _, _) _ 0 0 0 [some _, some _, some _] [] _
                                refine jr_iload rfl rfl ?_
                                refine jr_iload rfl rfl ?_
                                refine jr_icmp_lt rfl (fun m2MDisIn_3 => ?_) (fun m2MDisIn_3 => ?_)
                                · refine jr_ic rfl ?_
                                  refine jr_zret rfl rfl rfl (Nat.zero_le _) (Nat.zero_le _) ?_
                                  refine jr_zret rfl rfl rfl (Nat.zero_le _) (Nat.zero_le _) ?_
                                  refine jr_if_ne rfl (fun z => absurd (by decide) z) (fun _ => ?_)
                                  refine jr_ic rfl ?_
                                  refine jr_iret rfl rfl (Nat.zero_le _) (Nat.zero_le _) ?_
                                  first
                                    | exact ⟨rfl, hRel0⟩
                                    | (exfalso; omega)
                                    | (exfalso; simp (disch := omega) only [Int32.lt_iff_toInt_lt, Int32.le_iff_toInt_le, ← Int32.toInt_inj, Int32.reduceToInt, nI_toInt] at c3 c5 c8 c12 c1RephasPerson c5RephasPerson m2MDisIn m5MDisIn m2MDisIn_2 m5MDisIn_2 m5MDhasMonths m15 m2MDisIn_3; done)
                                    | (exfalso; simp (disch := omega) only [Int32.lt_iff_toInt_lt, Int32.le_iff_toInt_le, ← Int32.toInt_inj, Int32.reduceToInt, nI_toInt] at c3 c5 c8 c12 c1RephasPerson c5RephasPerson m2MDisIn m5MDisIn m2MDisIn_2 m5MDisIn_2 m5MDhasMonths m15 m2MDisIn_3; omega)
                                · refine jr_iload rfl rfl ?_
                                  refine jr_iload rfl rfl ?_
                                  refine jr_icmp_gt rfl (fun m5MDisIn_3 => ?_) (fun m5MDisIn_3 => ?_)
                                  · refine jr_ic rfl ?_
                                    refine jr_zret rfl rfl rfl (Nat.zero_le _) (Nat.zero_le _) ?_
                                    refine jr_zret rfl rfl rfl (Nat.zero_le _) (Nat.zero_le _) ?_
                                    refine jr_if_ne rfl (fun z => absurd (by decide) z) (fun _ => ?_)
                                    refine jr_ic rfl ?_
                                    refine jr_iret rfl rfl (Nat.zero_le _) (Nat.zero_le _) ?_
                                    first
                                      | exact ⟨rfl, hRel0⟩
                                      | (exfalso; omega)
                                      | (exfalso; simp (disch := omega) only [Int32.lt_iff_toInt_lt, Int32.le_iff_toInt_le, ← Int32.toInt_inj, Int32.reduceToInt, nI_toInt] at c3 c5 c8 c12 c1RephasPerson c5RephasPerson m2MDisIn m5MDisIn m2MDisIn_2 m5MDisIn_2 m5MDhasMonths m15 m2MDisIn_3 m5MDisIn_3; done)
                                      | (exfalso; simp (disch := omega) only [Int32.lt_iff_toInt_lt, Int32.le_iff_toInt_le, ← Int32.toInt_inj, Int32.reduceToInt, nI_toInt] at c3 c5 c8 c12 c1RephasPerson c5RephasPerson m2MDisIn m5MDisIn m2MDisIn_2 m5MDisIn_2 m5MDhasMonths m15 m2MDisIn_3 m5MDisIn_3; omega)
                                  · refine jr_ic rfl ?_
                                    refine jr_goto rfl ?_
                                    refine jr_zret rfl rfl rfl (Nat.zero_le _) (Nat.zero_le _) ?_
                                    refine jr_zret rfl rfl rfl (Nat.zero_le _) (Nat.zero_le _) ?_
                                    refine jr_if_ne rfl (fun _ => ?_) (fun z => absurd z (by decide))
                                    refine jr_aload rfl rfl ?_
                                    refine jr_cv0 (mc' := 0) (ms' := 0) rfl jm_MD_keepHead_n jm_MD_keepHead_f rfl rfl rfl rfl rfl rfl rfl (Nat.zero_le _) (Nat.zero_le _) ?_
                                    first
                                      | (exfalso; omega)
                                      | (exfalso; simp (disch := omega) only [Int32.lt_iff_toInt_lt, Int32.le_iff_toInt_le, ← Int32.toInt_inj, Int32.reduceToInt, nI_toInt] at c3 c5 c8 c12 c1RephasPerson c5RephasPerson m2MDisIn m5MDisIn m2MDisIn_2 m5MDisIn_2 m5MDhasMonths m15 m2MDisIn_3 m5MDisIn_3; done)
                                      | (exfalso; simp (disch := omega) only [Int32.lt_iff_toInt_lt, Int32.le_iff_toInt_le, ← Int32.toInt_inj, Int32.reduceToInt, nI_toInt] at c3 c5 c8 c12 c1RephasPerson c5RephasPerson m2MDisIn m5MDisIn m2MDisIn_2 m5MDisIn_2 m5MDhasMonths m15 m2MDisIn_3 m5MDisIn_3; omega)
                  · refine jr_ic rfl ?_
                    refine jr_goto rfl ?_
                    refine jr_zret rfl rfl rfl (Nat.zero_le _) (Nat.zero_le _) ?_
                    refine jr_if_eq rfl (fun z => absurd z (by decide)) (fun _ => ?_)
                    refine jr_aload rfl rfl ?_
                    refine jr_getR rfl rfl rfl rfl (Or.inl rfl) ?_
                    refine jr_aload rfl rfl ?_
                    refine jr_getR rfl rfl rfl rfl (Or.inl rfl) ?_
                    refine jr_iload rfl rfl ?_
                    refine jr_iload rfl rfl ?_
                    refine jr_cv3 (mc' := 0) (ms' := 0) rfl jm_For_hadAhead_n jm_For_hadAhead_f rfl rfl rfl rfl rfl rfl rfl (Nat.zero_le _) (Nat.zero_le _) ?_
                    show jx_W (jm_For_hadAhead, _, _, _, _, _, _) _ 0 0 0 [some _, some _, some _, some _] [] _
                    refine jr_aload rfl rfl ?_
                    refine jr_aload rfl rfl ?_
                    refine jr_iload rfl rfl ?_
                    refine jr_cv2 (mc' := 0) (ms' := 0) rfl jm_For_stepFrom_n jm_For_stepFrom_f rfl rfl rfl rfl rfl rfl rfl (Nat.zero_le _) (Nat.zero_le _) ?_
                    first
                      | (exfalso; omega)
                      | (exfalso; simp (disch := omega) only [Int32.lt_iff_toInt_lt, Int32.le_iff_toInt_le, ← Int32.toInt_inj, Int32.reduceToInt, nI_toInt] at c3 c5 c8 c12 c1RephasPerson c5RephasPerson; done)
                      | (exfalso; simp (disch := omega) only [Int32.lt_iff_toInt_lt, Int32.le_iff_toInt_le, ← Int32.toInt_inj, Int32.reduceToInt, nI_toInt] at c3 c5 c8 c12 c1RephasPerson c5RephasPerson; omega)
              · skip
                refine jr_ic rfl ?_
                refine jr_iret rfl rfl (Nat.zero_le _) (Nat.zero_le _) ?_
                show jx_W (jm_MD_ahead, d + 40, 0, 0, false, 1, _) _ 0 0 0 [some _, some _, some _, some _, none, none] [] _
                refine jr_iload rfl rfl ?_
                refine jr_ic rfl ?_
                refine jr_ic rfl ?_
                refine jr_cs3 (mc' := 0) (ms' := 0) rfl jm_MD_isIn_n jm_MD_isIn_f rfl rfl rfl rfl rfl (Nat.zero_le _) (Nat.zero_le _) ?_
                show jx_W (jm_MD_isIn, _, _, _, _, _, _) _ 0 0 0 [some _, some _, some _] [] _
                refine jr_iload rfl rfl ?_
                refine jr_iload rfl rfl ?_
                refine jr_icmp_lt rfl (fun m2MDisIn => ?_) (fun m2MDisIn => ?_)
                · refine jr_ic rfl ?_
                  refine jr_zret rfl rfl rfl (Nat.zero_le _) (Nat.zero_le _) ?_
                  refine jr_if_eq rfl (fun _ => ?_) (fun z => absurd (by decide) z)
                  refine jr_ic rfl ?_
                  refine jr_iret rfl rfl (Nat.zero_le _) (Nat.zero_le _) ?_
                  first
                    | exact ⟨rfl, hRel0⟩
                    | (exfalso; omega)
                    | (exfalso; simp (disch := omega) only [Int32.lt_iff_toInt_lt, Int32.le_iff_toInt_le, ← Int32.toInt_inj, Int32.reduceToInt, nI_toInt] at c3 c5 c8 m2MDisIn; done)
                    | (exfalso; simp (disch := omega) only [Int32.lt_iff_toInt_lt, Int32.le_iff_toInt_le, ← Int32.toInt_inj, Int32.reduceToInt, nI_toInt] at c3 c5 c8 m2MDisIn; omega)
                · refine jr_iload rfl rfl ?_
                  refine jr_iload rfl rfl ?_
                  refine jr_icmp_gt rfl (fun m5MDisIn => ?_) (fun m5MDisIn => ?_)
                  · refine jr_ic rfl ?_
                    refine jr_zret rfl rfl rfl (Nat.zero_le _) (Nat.zero_le _) ?_
                    refine jr_if_eq rfl (fun _ => ?_) (fun z => absurd (by decide) z)
                    refine jr_ic rfl ?_
                    refine jr_iret rfl rfl (Nat.zero_le _) (Nat.zero_le _) ?_
                    first
                      | exact ⟨rfl, hRel0⟩
                      | (exfalso; omega)
                      | (exfalso; simp (disch := omega) only [Int32.lt_iff_toInt_lt, Int32.le_iff_toInt_le, ← Int32.toInt_inj, Int32.reduceToInt, nI_toInt] at c3 c5 c8 m2MDisIn m5MDisIn; done)
                      | (exfalso; simp (disch := omega) only [Int32.lt_iff_toInt_lt, Int32.le_iff_toInt_le, ← Int32.toInt_inj, Int32.reduceToInt, nI_toInt] at c3 c5 c8 m2MDisIn m5MDisIn; omega)
                  · refine jr_ic rfl ?_
                    refine jr_goto rfl ?_
                    refine jr_zret rfl rfl rfl (Nat.zero_le _) (Nat.zero_le _) ?_
                    refine jr_if_eq rfl (fun z => absurd z (by decide)) (fun _ => ?_)
                    refine jr_iload rfl rfl ?_
                    refine jr_ic rfl ?_
                    refine jr_ic rfl ?_
                    refine jr_cs3 (mc' := 0) (ms' := 0) rfl jm_MD_isIn_n jm_MD_isIn_f rfl rfl rfl rfl rfl (Nat.zero_le _) (Nat.zero_le _) ?_
                    show jx_W (jm_MD_isIn, _, _, _, _, _, _) _ 0 0 0 [some _, some _, some _] [] _
                    refine jr_iload rfl rfl ?_
                    refine jr_iload rfl rfl ?_
                    refine jr_icmp_lt rfl (fun m2MDisIn_2 => ?_) (fun m2MDisIn_2 => ?_)
                    · refine jr_ic rfl ?_
                      refine jr_zret rfl rfl rfl (Nat.zero_le _) (Nat.zero_le _) ?_
                      refine jr_if_eq rfl (fun _ => ?_) (fun z => absurd (by decide) z)
                      refine jr_ic rfl ?_
                      refine jr_iret rfl rfl (Nat.zero_le _) (Nat.zero_le _) ?_
                      first
                        | exact ⟨rfl, hRel0⟩
                        | (exfalso; omega)
                        | (exfalso; simp (disch := omega) only [Int32.lt_iff_toInt_lt, Int32.le_iff_toInt_le, ← Int32.toInt_inj, Int32.reduceToInt, nI_toInt] at c3 c5 c8 m2MDisIn m5MDisIn m2MDisIn_2; done)
                        | (exfalso; simp (disch := omega) only [Int32.lt_iff_toInt_lt, Int32.le_iff_toInt_le, ← Int32.toInt_inj, Int32.reduceToInt, nI_toInt] at c3 c5 c8 m2MDisIn m5MDisIn m2MDisIn_2; omega)
                    · refine jr_iload rfl rfl ?_
                      refine jr_iload rfl rfl ?_
                      refine jr_icmp_gt rfl (fun m5MDisIn_2 => ?_) (fun m5MDisIn_2 => ?_)
                      · refine jr_ic rfl ?_
                        refine jr_zret rfl rfl rfl (Nat.zero_le _) (Nat.zero_le _) ?_
                        refine jr_if_eq rfl (fun _ => ?_) (fun z => absurd (by decide) z)
                        refine jr_ic rfl ?_
                        refine jr_iret rfl rfl (Nat.zero_le _) (Nat.zero_le _) ?_
                        first
                          | exact ⟨rfl, hRel0⟩
                          | (exfalso; omega)
                          | (exfalso; simp (disch := omega) only [Int32.lt_iff_toInt_lt, Int32.le_iff_toInt_le, ← Int32.toInt_inj, Int32.reduceToInt, nI_toInt] at c3 c5 c8 m2MDisIn m5MDisIn m2MDisIn_2 m5MDisIn_2; done)
                          | (exfalso; simp (disch := omega) only [Int32.lt_iff_toInt_lt, Int32.le_iff_toInt_le, ← Int32.toInt_inj, Int32.reduceToInt, nI_toInt] at c3 c5 c8 m2MDisIn m5MDisIn m2MDisIn_2 m5MDisIn_2; omega)
                      · refine jr_ic rfl ?_
                        refine jr_goto rfl ?_
                        refine jr_zret rfl rfl rfl (Nat.zero_le _) (Nat.zero_le _) ?_
                        refine jr_if_eq rfl (fun z => absurd z (by decide)) (fun _ => ?_)
                        refine jr_aload rfl rfl ?_
                        refine jr_cv0 (mc' := 0) (ms' := 0) rfl jm_MD_hasMonths_n jm_MD_hasMonths_f rfl rfl rfl rfl rfl rfl rfl (Nat.zero_le _) (Nat.zero_le _) ?_
                        show jx_W (jm_MD_hasMonths, _, _, _, _, _, _) _ 0 0 0 [some _] [] _
                        refine jr_aload rfl rfl ?_
                        refine jr_getR rfl rfl rfl rfl (Or.inl rfl) ?_
                        refine jr_aload rfl rfl ?_
                        refine jr_getI rfl rfl ?_
                        refine jr_iald (len := 2) rfl rfl hw.1 (by omega) ?_
                        refine jr_if_le rfl (fun m5MDhasMonths => ?_) (fun m5MDhasMonths => ?_)
                        · refine jr_ic rfl ?_
                          refine jr_zret rfl rfl rfl (Nat.zero_le _) (Nat.zero_le _) ?_
                          refine jr_if_eq rfl (fun _ => ?_) (fun z => absurd (by decide) z)
                          refine jr_ic rfl ?_
                          refine jr_iret rfl rfl (Nat.zero_le _) (Nat.zero_le _) ?_
                          first
                            | exact ⟨rfl, hRel0⟩
                            | (exfalso; omega)
                            | (exfalso; simp (disch := omega) only [Int32.lt_iff_toInt_lt, Int32.le_iff_toInt_le, ← Int32.toInt_inj, Int32.reduceToInt, nI_toInt] at c3 c5 c8 m2MDisIn m5MDisIn m2MDisIn_2 m5MDisIn_2 m5MDhasMonths; done)
                            | (exfalso; simp (disch := omega) only [Int32.lt_iff_toInt_lt, Int32.le_iff_toInt_le, ← Int32.toInt_inj, Int32.reduceToInt, nI_toInt] at c3 c5 c8 m2MDisIn m5MDisIn m2MDisIn_2 m5MDisIn_2 m5MDhasMonths; omega)
                        · refine jr_ic rfl ?_
                          refine jr_goto rfl ?_
                          refine jr_zret rfl rfl rfl (Nat.zero_le _) (Nat.zero_le _) ?_
                          refine jr_if_eq rfl (fun z => absurd z (by decide)) (fun _ => ?_)
                          refine jr_iload rfl rfl ?_
                          refine jr_ic rfl ?_
                          refine jr_icmp_ne rfl (fun m15 => ?_) (fun m15 => ?_)
                          · refine jr_aload rfl rfl ?_
                            refine jr_cv0 (mc' := 0) (ms' := 0) rfl jm_MD_keepHead_n jm_MD_keepHead_f rfl rfl rfl rfl rfl rfl rfl (Nat.zero_le _) (Nat.zero_le _) ?_
                            first
                              | (exfalso; omega)
                              | (exfalso; simp (disch := omega) only [Int32.lt_iff_toInt_lt, Int32.le_iff_toInt_le, ← Int32.toInt_inj, Int32.reduceToInt, nI_toInt] at c3 c5 c8 m2MDisIn m5MDisIn m2MDisIn_2 m5MDisIn_2 m5MDhasMonths m15; done)
                              | (exfalso; simp (disch := omega) only [Int32.lt_iff_toInt_lt, Int32.le_iff_toInt_le, ← Int32.toInt_inj, Int32.reduceToInt, nI_toInt] at c3 c5 c8 m2MDisIn m5MDisIn m2MDisIn_2 m5MDisIn_2 m5MDhasMonths m15; omega)
                          · refine jr_aload rfl rfl ?_
                            refine jr_iload rfl rfl ?_
                            refine jr_cv1 (mc' := 0) (ms' := 0) rfl jm_MD_isPerson_n jm_MD_isPerson_f rfl rfl rfl rfl rfl rfl rfl (Nat.zero_le _) (Nat.zero_le _) ?_
                            show jx_W (jm_MD_isPerson, _, _, _, _, _, _) _ 0 0 0 [some _, some _] [] _
                            refine jr_iload rfl rfl ?_
                            refine jr_ic rfl ?_
                            refine jr_aload rfl rfl ?_
                            refine jr_cv0 (mc' := 0) (ms' := 0) rfl jm_MD_personMany_n jm_MD_personMany_f rfl rfl rfl rfl rfl rfl rfl (Nat.zero_le _) (Nat.zero_le _) ?_
                            show jx_W (jm_MD_personMany, _, _, _, _, _, _) _ 0 0 0 [some _] [] _
                            refine jr_aload rfl rfl ?_
                            refine jr_getR rfl rfl rfl rfl (Or.inl rfl) ?_
                            refine jr_aload rfl rfl ?_
                            refine jr_getI rfl rfl ?_
                            refine jr_iald (len := 2) rfl rfl hw.1 (by omega) ?_
                            refine jr_iret rfl rfl (Nat.zero_le _) (Nat.zero_le _) ?_
                            refine jr_ic rfl ?_
                            refine jr_isub rfl ?_
                            refine jr_cs3 (mc' := 0) (ms' := 0) rfl jm_MD_isIn_n jm_MD_isIn_f rfl rfl rfl rfl rfl (Nat.zero_le _) (Nat.zero_le _) ?_
                            show jx_W (jm_MD_isIn, _, _, _, _, _, _) _ 0 0 0 [some _, some _, some _] [] _
                            refine jr_iload rfl rfl ?_
                            refine jr_iload rfl rfl ?_
                            refine jr_icmp_lt rfl (fun m2MDisIn_3 => ?_) (fun m2MDisIn_3 => ?_)
                            · refine jr_ic rfl ?_
                              refine jr_zret rfl rfl rfl (Nat.zero_le _) (Nat.zero_le _) ?_
                              refine jr_zret rfl rfl rfl (Nat.zero_le _) (Nat.zero_le _) ?_
                              refine jr_if_ne rfl (fun z => absurd (by decide) z) (fun _ => ?_)
                              refine jr_ic rfl ?_
                              refine jr_iret rfl rfl (Nat.zero_le _) (Nat.zero_le _) ?_
                              first
                                | exact ⟨rfl, hRel0⟩
                                | (exfalso; omega)
                                | (exfalso; simp (disch := omega) only [Int32.lt_iff_toInt_lt, Int32.le_iff_toInt_le, ← Int32.toInt_inj, Int32.reduceToInt, nI_toInt] at c3 c5 c8 m2MDisIn m5MDisIn m2MDisIn_2 m5MDisIn_2 m5MDhasMonths m15 m2MDisIn_3; done)
                                | (exfalso; simp (disch := omega) only [Int32.lt_iff_toInt_lt, Int32.le_iff_toInt_le, ← Int32.toInt_inj, Int32.reduceToInt, nI_toInt] at c3 c5 c8 m2MDisIn m5MDisIn m2MDisIn_2 m5MDisIn_2 m5MDhasMonths m15 m2MDisIn_3; omega)
                            · refine jr_iload rfl rfl ?_
                              refine jr_iload rfl rfl ?_
                              refine jr_icmp_gt rfl (fun m5MDisIn_3 => ?_) (fun m5MDisIn_3 => ?_)
                              · refine jr_ic rfl ?_
                                refine jr_zret rfl rfl rfl (Nat.zero_le _) (Nat.zero_le _) ?_
                                refine jr_zret rfl rfl rfl (Nat.zero_le _) (Nat.zero_le _) ?_
                                refine jr_if_ne rfl (fun z => absurd (by decide) z) (fun _ => ?_)
                                refine jr_ic rfl ?_
                                refine jr_iret rfl rfl (Nat.zero_le _) (Nat.zero_le _) ?_
                                first
                                  | exact ⟨rfl, hRel0⟩
                                  | (exfalso; omega)
                                  | (exfalso; simp (disch := omega) only [Int32.lt_iff_toInt_lt, Int32.le_iff_toInt_le, ← Int32.toInt_inj, Int32.reduceToInt, nI_toInt] at c3 c5 c8 m2MDisIn m5MDisIn m2MDisIn_2 m5MDisIn_2 m5MDhasMonths m15 m2MDisIn_3 m5MDisIn_3; done)
                                  | (exfalso; simp (disch := omega) only [Int32.lt_iff_toInt_lt, Int32.le_iff_toInt_le, ← Int32.toInt_inj, Int32.reduceToInt, nI_toInt] at c3 c5 c8 m2MDisIn m5MDisIn m2MDisIn_2 m5MDisIn_2 m5MDhasMonths m15 m2MDisIn_3 m5MDisIn_3; omega)
                              · refine jr_ic rfl ?_
                                refine jr_goto rfl ?_
                                refine jr_zret rfl rfl rfl (Nat.zero_le _) (Nat.zero_le _) ?_
                                refine jr_zret rfl rfl rfl (Nat.zero_le _) (Nat.zero_le _) ?_
                                refine jr_if_ne rfl (fun _ => ?_) (fun z => absurd z (by decide))
                                refine jr_aload rfl rfl ?_
                                refine jr_cv0 (mc' := 0) (ms' := 0) rfl jm_MD_keepHead_n jm_MD_keepHead_f rfl rfl rfl rfl rfl rfl rfl (Nat.zero_le _) (Nat.zero_le _) ?_
                                first
                                  | (exfalso; omega)
                                  | (exfalso; simp (disch := omega) only [Int32.lt_iff_toInt_lt, Int32.le_iff_toInt_le, ← Int32.toInt_inj, Int32.reduceToInt, nI_toInt] at c3 c5 c8 m2MDisIn m5MDisIn m2MDisIn_2 m5MDisIn_2 m5MDhasMonths m15 m2MDisIn_3 m5MDisIn_3; done)
                                  | (exfalso; simp (disch := omega) only [Int32.lt_iff_toInt_lt, Int32.le_iff_toInt_le, ← Int32.toInt_inj, Int32.reduceToInt, nI_toInt] at c3 c5 c8 m2MDisIn m5MDisIn m2MDisIn_2 m5MDisIn_2 m5MDhasMonths m15 m2MDisIn_3 m5MDisIn_3; omega)
        · refine jr_ic rfl ?_
          refine jr_iret rfl rfl (Nat.zero_le _) (Nat.zero_le _) ?_
          show jx_W (jm_MD_ahead, d + 40, 0, 0, false, 1, _) _ 0 0 0 [some _, some _, some _, some _, none, none] [] _
          refine jr_iload rfl rfl ?_
          refine jr_ic rfl ?_
          refine jr_ic rfl ?_
          refine jr_cs3 (mc' := 0) (ms' := 0) rfl jm_MD_isIn_n jm_MD_isIn_f rfl rfl rfl rfl rfl (Nat.zero_le _) (Nat.zero_le _) ?_
          show jx_W (jm_MD_isIn, _, _, _, _, _, _) _ 0 0 0 [some _, some _, some _] [] _
          refine jr_iload rfl rfl ?_
          refine jr_iload rfl rfl ?_
          refine jr_icmp_lt rfl (fun m2MDisIn => ?_) (fun m2MDisIn => ?_)
          · refine jr_ic rfl ?_
            refine jr_zret rfl rfl rfl (Nat.zero_le _) (Nat.zero_le _) ?_
            refine jr_if_eq rfl (fun _ => ?_) (fun z => absurd (by decide) z)
            refine jr_ic rfl ?_
            refine jr_iret rfl rfl (Nat.zero_le _) (Nat.zero_le _) ?_
            first
              | exact ⟨rfl, hRel0⟩
              | (exfalso; omega)
              | (exfalso; simp (disch := omega) only [Int32.lt_iff_toInt_lt, Int32.le_iff_toInt_le, ← Int32.toInt_inj, Int32.reduceToInt, nI_toInt] at c3 c5 c8 m2MDisIn; done)
              | (exfalso; simp (disch := omega) only [Int32.lt_iff_toInt_lt, Int32.le_iff_toInt_le, ← Int32.toInt_inj, Int32.reduceToInt, nI_toInt] at c3 c5 c8 m2MDisIn; omega)
          · refine jr_iload rfl rfl ?_
            refine jr_iload rfl rfl ?_
            refine jr_icmp_gt rfl (fun m5MDisIn => ?_) (fun m5MDisIn => ?_)
            · refine jr_ic rfl ?_
              refine jr_zret rfl rfl rfl (Nat.zero_le _) (Nat.zero_le _) ?_
              refine jr_if_eq rfl (fun _ => ?_) (fun z => absurd (by decide) z)
              refine jr_ic rfl ?_
              refine jr_iret rfl rfl (Nat.zero_le _) (Nat.zero_le _) ?_
              first
                | exact ⟨rfl, hRel0⟩
                | (exfalso; omega)
                | (exfalso; simp (disch := omega) only [Int32.lt_iff_toInt_lt, Int32.le_iff_toInt_le, ← Int32.toInt_inj, Int32.reduceToInt, nI_toInt] at c3 c5 c8 m2MDisIn m5MDisIn; done)
                | (exfalso; simp (disch := omega) only [Int32.lt_iff_toInt_lt, Int32.le_iff_toInt_le, ← Int32.toInt_inj, Int32.reduceToInt, nI_toInt] at c3 c5 c8 m2MDisIn m5MDisIn; omega)
            · refine jr_ic rfl ?_
              refine jr_goto rfl ?_
              refine jr_zret rfl rfl rfl (Nat.zero_le _) (Nat.zero_le _) ?_
              refine jr_if_eq rfl (fun z => absurd z (by decide)) (fun _ => ?_)
              refine jr_iload rfl rfl ?_
              refine jr_ic rfl ?_
              refine jr_ic rfl ?_
              refine jr_cs3 (mc' := 0) (ms' := 0) rfl jm_MD_isIn_n jm_MD_isIn_f rfl rfl rfl rfl rfl (Nat.zero_le _) (Nat.zero_le _) ?_
              show jx_W (jm_MD_isIn, _, _, _, _, _, _) _ 0 0 0 [some _, some _, some _] [] _
              refine jr_iload rfl rfl ?_
              refine jr_iload rfl rfl ?_
              refine jr_icmp_lt rfl (fun m2MDisIn_2 => ?_) (fun m2MDisIn_2 => ?_)
              · refine jr_ic rfl ?_
                refine jr_zret rfl rfl rfl (Nat.zero_le _) (Nat.zero_le _) ?_
                refine jr_if_eq rfl (fun _ => ?_) (fun z => absurd (by decide) z)
                refine jr_ic rfl ?_
                refine jr_iret rfl rfl (Nat.zero_le _) (Nat.zero_le _) ?_
                first
                  | exact ⟨rfl, hRel0⟩
                  | (exfalso; omega)
                  | (exfalso; simp (disch := omega) only [Int32.lt_iff_toInt_lt, Int32.le_iff_toInt_le, ← Int32.toInt_inj, Int32.reduceToInt, nI_toInt] at c3 c5 c8 m2MDisIn m5MDisIn m2MDisIn_2; done)
                  | (exfalso; simp (disch := omega) only [Int32.lt_iff_toInt_lt, Int32.le_iff_toInt_le, ← Int32.toInt_inj, Int32.reduceToInt, nI_toInt] at c3 c5 c8 m2MDisIn m5MDisIn m2MDisIn_2; omega)
              · refine jr_iload rfl rfl ?_
                refine jr_iload rfl rfl ?_
                refine jr_icmp_gt rfl (fun m5MDisIn_2 => ?_) (fun m5MDisIn_2 => ?_)
                · refine jr_ic rfl ?_
                  refine jr_zret rfl rfl rfl (Nat.zero_le _) (Nat.zero_le _) ?_
                  refine jr_if_eq rfl (fun _ => ?_) (fun z => absurd (by decide) z)
                  refine jr_ic rfl ?_
                  refine jr_iret rfl rfl (Nat.zero_le _) (Nat.zero_le _) ?_
                  first
                    | exact ⟨rfl, hRel0⟩
                    | (exfalso; omega)
                    | (exfalso; simp (disch := omega) only [Int32.lt_iff_toInt_lt, Int32.le_iff_toInt_le, ← Int32.toInt_inj, Int32.reduceToInt, nI_toInt] at c3 c5 c8 m2MDisIn m5MDisIn m2MDisIn_2 m5MDisIn_2; done)
                    | (exfalso; simp (disch := omega) only [Int32.lt_iff_toInt_lt, Int32.le_iff_toInt_le, ← Int32.toInt_inj, Int32.reduceToInt, nI_toInt] at c3 c5 c8 m2MDisIn m5MDisIn m2MDisIn_2 m5MDisIn_2; omega)
                · refine jr_ic rfl ?_
                  refine jr_goto rfl ?_
                  refine jr_zret rfl rfl rfl (Nat.zero_le _) (Nat.zero_le _) ?_
                  refine jr_if_eq rfl (fun z => absurd z (by decide)) (fun _ => ?_)
                  refine jr_aload rfl rfl ?_
                  refine jr_cv0 (mc' := 0) (ms' := 0) rfl jm_MD_hasMonths_n jm_MD_hasMonths_f rfl rfl rfl rfl rfl rfl rfl (Nat.zero_le _) (Nat.zero_le _) ?_
                  show jx_W (jm_MD_hasMonths, _, _, _, _, _, _) _ 0 0 0 [some _] [] _
                  refine jr_aload rfl rfl ?_
                  refine jr_getR rfl rfl rfl rfl (Or.inl rfl) ?_
                  refine jr_aload rfl rfl ?_
                  refine jr_getI rfl rfl ?_
                  refine jr_iald (len := 2) rfl rfl hw.1 (by omega) ?_
                  refine jr_if_le rfl (fun m5MDhasMonths => ?_) (fun m5MDhasMonths => ?_)
                  · refine jr_ic rfl ?_
                    refine jr_zret rfl rfl rfl (Nat.zero_le _) (Nat.zero_le _) ?_
                    refine jr_if_eq rfl (fun _ => ?_) (fun z => absurd (by decide) z)
                    refine jr_ic rfl ?_
                    refine jr_iret rfl rfl (Nat.zero_le _) (Nat.zero_le _) ?_
                    first
                      | exact ⟨rfl, hRel0⟩
                      | (exfalso; omega)
                      | (exfalso; simp (disch := omega) only [Int32.lt_iff_toInt_lt, Int32.le_iff_toInt_le, ← Int32.toInt_inj, Int32.reduceToInt, nI_toInt] at c3 c5 c8 m2MDisIn m5MDisIn m2MDisIn_2 m5MDisIn_2 m5MDhasMonths; done)
                      | (exfalso; simp (disch := omega) only [Int32.lt_iff_toInt_lt, Int32.le_iff_toInt_le, ← Int32.toInt_inj, Int32.reduceToInt, nI_toInt] at c3 c5 c8 m2MDisIn m5MDisIn m2MDisIn_2 m5MDisIn_2 m5MDhasMonths; omega)
                  · refine jr_ic rfl ?_
                    refine jr_goto rfl ?_
                    refine jr_zret rfl rfl rfl (Nat.zero_le _) (Nat.zero_le _) ?_
                    refine jr_if_eq rfl (fun z => absurd z (by decide)) (fun _ => ?_)
                    refine jr_iload rfl rfl ?_
                    refine jr_ic rfl ?_
                    refine jr_icmp_ne rfl (fun m15 => ?_) (fun m15 => ?_)
                    · refine jr_aload rfl rfl ?_
                      refine jr_cv0 (mc' := 0) (ms' := 0) rfl jm_MD_keepHead_n jm_MD_keepHead_f rfl rfl rfl rfl rfl rfl rfl (Nat.zero_le _) (Nat.zero_le _) ?_
                      first
                        | (exfalso; omega)
                        | (exfalso; simp (disch := omega) only [Int32.lt_iff_toInt_lt, Int32.le_iff_toInt_le, ← Int32.toInt_inj, Int32.reduceToInt, nI_toInt] at c3 c5 c8 m2MDisIn m5MDisIn m2MDisIn_2 m5MDisIn_2 m5MDhasMonths m15; done)
                        | (exfalso; simp (disch := omega) only [Int32.lt_iff_toInt_lt, Int32.le_iff_toInt_le, ← Int32.toInt_inj, Int32.reduceToInt, nI_toInt] at c3 c5 c8 m2MDisIn m5MDisIn m2MDisIn_2 m5MDisIn_2 m5MDhasMonths m15; omega)
                    · refine jr_aload rfl rfl ?_
                      refine jr_iload rfl rfl ?_
                      refine jr_cv1 (mc' := 0) (ms' := 0) rfl jm_MD_isPerson_n jm_MD_isPerson_f rfl rfl rfl rfl rfl rfl rfl (Nat.zero_le _) (Nat.zero_le _) ?_
                      show jx_W (jm_MD_isPerson, _, _, _, _, _, _) _ 0 0 0 [some _, some _] [] _
                      refine jr_iload rfl rfl ?_
                      refine jr_ic rfl ?_
                      refine jr_aload rfl rfl ?_
                      refine jr_cv0 (mc' := 0) (ms' := 0) rfl jm_MD_personMany_n jm_MD_personMany_f rfl rfl rfl rfl rfl rfl rfl (Nat.zero_le _) (Nat.zero_le _) ?_
                      show jx_W (jm_MD_personMany, _, _, _, _, _, _) _ 0 0 0 [some _] [] _
                      refine jr_aload rfl rfl ?_
                      refine jr_getR rfl rfl rfl rfl (Or.inl rfl) ?_
                      refine jr_aload rfl rfl ?_
                      refine jr_getI rfl rfl ?_
                      refine jr_iald (len := 2) rfl rfl hw.1 (by omega) ?_
                      refine jr_iret rfl rfl (Nat.zero_le _) (Nat.zero_le _) ?_
                      refine jr_ic rfl ?_
                      refine jr_isub rfl ?_
                      refine jr_cs3 (mc' := 0) (ms' := 0) rfl jm_MD_isIn_n jm_MD_isIn_f rfl rfl rfl rfl rfl (Nat.zero_le _) (Nat.zero_le _) ?_
                      show jx_W (jm_MD_isIn, _, _, _, _, _, _) _ 0 0 0 [some _, some _, some _] [] _
                      refine jr_iload rfl rfl ?_
                      refine jr_iload rfl rfl ?_
                      refine jr_icmp_lt rfl (fun m2MDisIn_3 => ?_) (fun m2MDisIn_3 => ?_)
                      · refine jr_ic rfl ?_
                        refine jr_zret rfl rfl rfl (Nat.zero_le _) (Nat.zero_le _) ?_
                        refine jr_zret rfl rfl rfl (Nat.zero_le _) (Nat.zero_le _) ?_
                        refine jr_if_ne rfl (fun z => absurd (by decide) z) (fun _ => ?_)
                        refine jr_ic rfl ?_
                        refine jr_iret rfl rfl (Nat.zero_le _) (Nat.zero_le _) ?_
                        first
                          | exact ⟨rfl, hRel0⟩
                          | (exfalso; omega)
                          | (exfalso; simp (disch := omega) only [Int32.lt_iff_toInt_lt, Int32.le_iff_toInt_le, ← Int32.toInt_inj, Int32.reduceToInt, nI_toInt] at c3 c5 c8 m2MDisIn m5MDisIn m2MDisIn_2 m5MDisIn_2 m5MDhasMonths m15 m2MDisIn_3; done)
                          | (exfalso; simp (disch := omega) only [Int32.lt_iff_toInt_lt, Int32.le_iff_toInt_le, ← Int32.toInt_inj, Int32.reduceToInt, nI_toInt] at c3 c5 c8 m2MDisIn m5MDisIn m2MDisIn_2 m5MDisIn_2 m5MDhasMonths m15 m2MDisIn_3; omega)
                      · refine jr_iload rfl rfl ?_
                        refine jr_iload rfl rfl ?_
                        refine jr_icmp_gt rfl (fun m5MDisIn_3 => ?_) (fun m5MDisIn_3 => ?_)
                        · refine jr_ic rfl ?_
                          refine jr_zret rfl rfl rfl (Nat.zero_le _) (Nat.zero_le _) ?_
                          refine jr_zret rfl rfl rfl (Nat.zero_le _) (Nat.zero_le _) ?_
                          refine jr_if_ne rfl (fun z => absurd (by decide) z) (fun _ => ?_)
                          refine jr_ic rfl ?_
                          refine jr_iret rfl rfl (Nat.zero_le _) (Nat.zero_le _) ?_
                          first
                            | exact ⟨rfl, hRel0⟩
                            | (exfalso; omega)
                            | (exfalso; simp (disch := omega) only [Int32.lt_iff_toInt_lt, Int32.le_iff_toInt_le, ← Int32.toInt_inj, Int32.reduceToInt, nI_toInt] at c3 c5 c8 m2MDisIn m5MDisIn m2MDisIn_2 m5MDisIn_2 m5MDhasMonths m15 m2MDisIn_3 m5MDisIn_3; done)
                            | (exfalso; simp (disch := omega) only [Int32.lt_iff_toInt_lt, Int32.le_iff_toInt_le, ← Int32.toInt_inj, Int32.reduceToInt, nI_toInt] at c3 c5 c8 m2MDisIn m5MDisIn m2MDisIn_2 m5MDisIn_2 m5MDhasMonths m15 m2MDisIn_3 m5MDisIn_3; omega)
                        · refine jr_ic rfl ?_
                          refine jr_goto rfl ?_
                          refine jr_zret rfl rfl rfl (Nat.zero_le _) (Nat.zero_le _) ?_
                          refine jr_zret rfl rfl rfl (Nat.zero_le _) (Nat.zero_le _) ?_
                          refine jr_if_ne rfl (fun _ => ?_) (fun z => absurd z (by decide))
                          refine jr_aload rfl rfl ?_
                          refine jr_cv0 (mc' := 0) (ms' := 0) rfl jm_MD_keepHead_n jm_MD_keepHead_f rfl rfl rfl rfl rfl rfl rfl (Nat.zero_le _) (Nat.zero_le _) ?_
                          first
                            | (exfalso; omega)
                            | (exfalso; simp (disch := omega) only [Int32.lt_iff_toInt_lt, Int32.le_iff_toInt_le, ← Int32.toInt_inj, Int32.reduceToInt, nI_toInt] at c3 c5 c8 m2MDisIn m5MDisIn m2MDisIn_2 m5MDisIn_2 m5MDhasMonths m15 m2MDisIn_3 m5MDisIn_3; done)
                            | (exfalso; simp (disch := omega) only [Int32.lt_iff_toInt_lt, Int32.le_iff_toInt_le, ← Int32.toInt_inj, Int32.reduceToInt, nI_toInt] at c3 c5 c8 m2MDisIn m5MDisIn m2MDisIn_2 m5MDisIn_2 m5MDhasMonths m15 m2MDisIn_3 m5MDisIn_3; omega)

