set_option maxHeartbeats 800000 in
set_option maxRecDepth 100000 in
theorem ev_openF {d : Nat} {h : jx_H} {Q : Option jx_V → jx_H → Prop} {hm : jx_H} {b c r kc : Nat} {S : Nat → Nat → Int32} (hw : jz_W hm b) (hA : jy_A h c r (jA hm)) (hR : jy_R h r hm b) (hmo : ¬ jC hm b 0 0 = 0) (k : ∀ S' : Nat → Nat → Int32, (∀ x, x ≠ 5 → x ≠ 37 → x ≠ 40 → x ≠ 41 → S' x = S x) → jy_Pf S' (jh_I h 7 r 13) hm b → jy_Pm S' hm b → Q none (jP h S' (c + 1)))  : jx_Ev jm_Poll_open (d + 4) 0 0 false 0 [jv_r 5 0, jv_r 1 c] (jP h S kc) Q := by
  show jx_W (jm_Poll_open, d + 4, 0, 0, false, 0, _) Q 0 0 0 [some (jv_r 5 0), some (jv_r 1 c)] [] _
  obtain ⟨L, hL, hL1, hL2⟩ := jz_dl hw hmo
  refine jr_aload rfl rfl ?_
  refine jr_aload rfl rfl ?_
  refine jr_putM rfl rfl rfl rfl ?_
  rw [jP_M]
  refine jr_aload rfl rfl ?_
  refine jr_aload rfl rfl ?_
  refine jr_cv0 (mc' := 0) (ms' := 0) rfl jm_Cal_nextMonth_n jm_Cal_nextMonth_f rfl rfl rfl rfl rfl rfl rfl (Nat.zero_le _) (Nat.zero_le _) ?_
  refine ev_Cal_nextMonth hw hA hR hmo ?_
  refine jr_putI rfl rfl ?_
  simp only [jP_5, jP_r5]
  refine jr_aload rfl rfl ?_
  refine jr_aload rfl rfl ?_
  refine jr_cv0 (mc' := 0) (ms' := 0) rfl jm_Cal_nextYear_n jm_Cal_nextYear_f rfl rfl rfl rfl rfl rfl rfl (Nat.zero_le _) (Nat.zero_le _) ?_
  refine ev_Cal_nextYear hw hA hR hmo ?_
  refine jr_putI rfl rfl ?_
  simp only [jP_5, jP_r5]
  refine jr_aload rfl rfl ?_
  refine jr_aload rfl rfl ?_
  refine jr_ic rfl ?_
  refine jr_ic rfl ?_
  refine jr_cv2 (mc' := 0) (ms' := 0) rfl jm_Cal_driftUpper_n jm_Cal_driftUpper_f rfl rfl rfl rfl rfl rfl rfl (Nat.zero_le _) (Nat.zero_le _) ?_
  refine ev2_driftUpper hw hA hR hmo ?_
  refine jr_aload rfl rfl ?_
  refine jr_cv0 (mc' := 0) (ms' := 0) rfl jm_Cal_driftLower_n jm_Cal_driftLower_f rfl rfl rfl rfl rfl rfl rfl (Nat.zero_le _) (Nat.zero_le _) ?_
  refine ev2_driftLower hw hA hR hmo ?_
  rw [hL]
  refine jr_cs2 (mc' := 0) (ms' := 0) rfl jm_Math_floorDiv_n jm_Math_floorDiv_f rfl rfl rfl rfl rfl (Nat.zero_le _) (Nat.zero_le _) ?_
  refine ev_Math_floorDiv hL1 (by omega) (fun v hv => ?_)
  refine jr_putI rfl rfl ?_
  simp only [jP_5, jP_r5]
  refine jr_aload rfl rfl ?_
  refine jr_getM rfl rfl rfl rfl hA.1 ?_
  refine jr_getZ rfl rfl ?_
  refine jr_if_eq rfl (fun c23 => ?_) (fun c23 => ?_)
  · refine jr_aload rfl rfl ?_
    refine jr_aload rfl rfl ?_
    refine jr_aload rfl rfl ?_
    refine jr_getM rfl rfl rfl rfl hA.1 ?_
    refine jr_cv1 (mc' := 0) (ms' := 0) rfl jm_Poll_maskByLaw_n jm_Poll_maskByLaw_f rfl rfl rfl rfl rfl rfl rfl (Nat.zero_le _) (Nat.zero_le _) ?_
    refine ev_Poll_maskByLaw (c := c) hw hA hR hmo (show jy_Pf _ (jh_I h 7 r 13) hm b from ⟨rfl, rfl, fun l hl => jz_drift hw hmo hL hL1 hL2 hv hl, fun z => absurd c23 z⟩) (fun S3 v3 f3 hm3 => ?_)
    refine jr_putI rfl rfl ?_
    refine jr_vret rfl rfl (Nat.zero_le _) (Nat.zero_le _) ?_
    simp only [jP_5, jP_r5]
    have hPf := (show jy_Pf (fun x => if x = 5 then upd (upd (upd (S 5) 7 (jw_month (jC hm b) (jA hm))) 8 (jA hm 0 / jC hm b 0 0)) 9 v else S x) (jh_I h 7 r 13) hm b from ⟨rfl, rfl, fun l hl => jz_drift hw hmo hL hL1 hL2 hv hl, fun z => absurd c23 z⟩)
    refine k _ (fun x h1 h2 h3 h4 => ?_) ?_ (fun l hl => hm3 l hl)
    · simp only [if_neg h1, f3 x h2]
    have e5 := f3 5 (by decide)
    have e40 := f3 40 (by decide)
    have e41 := f3 41 (by decide)
    obtain ⟨q1, q2, q3, q4⟩ := hPf
    refine ⟨?_, ?_, fun l hl => ?_, fun z p l hp hl => ?_⟩
    · exact (congrFun e5 7).trans q1
    · exact (congrFun e5 8).trans q2
    · exact (congrArg (· + nI l) (congrFun e5 9)).trans (q3 l hl)
    · exact ⟨(congrFun e40 _).trans (q4 z p l hp hl).1, (congrFun e41 _).trans (q4 z p l hp hl).2⟩
  · refine jr_aload rfl rfl ?_
    refine jr_cv0 (mc' := 0) (ms' := 0) rfl jm_Poll_fillFlows_n jm_Poll_fillFlows_f rfl rfl rfl rfl rfl rfl rfl (Nat.zero_le _) (Nat.zero_le _) ?_
    refine ev_Poll_fillFlows (c := c) hw hA hR rfl (fun S2 f2 g2 => ?_)
    refine jr_aload rfl rfl ?_
    refine jr_aload rfl rfl ?_
    refine jr_aload rfl rfl ?_
    refine jr_getM rfl rfl rfl rfl hA.1 ?_
    refine jr_cv1 (mc' := 0) (ms' := 0) rfl jm_Poll_maskByLaw_n jm_Poll_maskByLaw_f rfl rfl rfl rfl rfl rfl rfl (Nat.zero_le _) (Nat.zero_le _) ?_
    refine ev_Poll_maskByLaw (c := c) hw hA hR hmo (show jy_Pf S2 (jh_I h 7 r 13) hm b from ⟨congrFun (f2 5 (by decide) (by decide)) 7, congrFun (f2 5 (by decide) (by decide)) 8, fun l hl => (congrArg (· + nI l) (congrFun (f2 5 (by decide) (by decide)) 9)).trans (jz_drift hw hmo hL hL1 hL2 hv hl), fun _ => g2⟩) (fun S3 v3 f3 hm3 => ?_)
    refine jr_putI rfl rfl ?_
    refine jr_vret rfl rfl (Nat.zero_le _) (Nat.zero_le _) ?_
    simp only [jP_5, jP_r5]
    have hPf := (show jy_Pf S2 (jh_I h 7 r 13) hm b from ⟨congrFun (f2 5 (by decide) (by decide)) 7, congrFun (f2 5 (by decide) (by decide)) 8, fun l hl => (congrArg (· + nI l) (congrFun (f2 5 (by decide) (by decide)) 9)).trans (jz_drift hw hmo hL hL1 hL2 hv hl), fun _ => g2⟩)
    refine k _ (fun x h1 h2 h3 h4 => ?_) ?_ (fun l hl => hm3 l hl)
    · simp only [if_neg h1, f3 x h2, f2 x h3 h4]
    have e5 := f3 5 (by decide)
    have e40 := f3 40 (by decide)
    have e41 := f3 41 (by decide)
    obtain ⟨q1, q2, q3, q4⟩ := hPf
    refine ⟨?_, ?_, fun l hl => ?_, fun z p l hp hl => ?_⟩
    · exact (congrFun e5 7).trans q1
    · exact (congrFun e5 8).trans q2
    · exact (congrArg (· + nI l) (congrFun e5 9)).trans (q3 l hl)
    · exact ⟨(congrFun e40 _).trans (q4 z p l hp hl).1, (congrFun e41 _).trans (q4 z p l hp hl).2⟩

/-- what was looked at: how many rows, the best -/
abbrev jq_S := Nat × Option (Int32 × (Nat → Int32))
def jq_cmp (s : Int32) (row : Nat → Int32) : jq_S → jq_S
  | (k, none) => (k, some (s, row))
  | (k, some (v, R)) => if v < s then (k, some (s, row)) else (k, some (v, R))
def jq_len (M : Nat → Int32) (F : Nat → jq_S → Option jq_S) : Nat → Nat → jq_S → Option jq_S
  | 0, _, σ => some σ
  | m + 1, l, σ => if M l = 0 then jq_len M F m (l + 1) σ else if 20000 < σ.1 + 1 then none else (F l (σ.1 + 1, σ.2)).bind (jq_len M F m (l + 1))
def jq_go (hm : jx_H) (b p : Nat) : Nat → Nat → jw_A → Int32 → (Nat → Int32) → jq_S → Option jq_S
  | 0, _, _, s, row, σ => some (jq_cmp s row σ)
  | r + 1, dp, a, s, row, σ => jq_len (jw_mayb (jw_h hm a) b) (fun l σ => jq_go hm b p r (dp + 1) (jw_gb (jC hm b) (jz_nd hm b) (nI l) a) (s + jw_worth (jw_h hm a) b p (nI l) (jz_nd hm b)) (upd row dp (nI l)) σ) 32 0 σ
def jq_C (S : Nat → Nat → Int32) (p n : Nat) (σ : jq_S) : Prop := S 3 8 = nI p ∧ S 3 9 = nI n ∧ S 3 7 = nI σ.1 ∧ σ.1 ≤ 20000 ∧ (σ.2 = none ∧ S 3 6 = 0 ∨ ∃ v R, σ.2 = some (v, R) ∧ S 3 6 = 1 ∧ S 3 5 = v ∧ ∀ j, j < n → S 47 j = R j)
theorem jq_C_e {S S' : Nat → Nat → Int32} {p n : Nat} {σ : jq_S} (h : jq_C S p n σ) (e3 : S' 3 = S 3) (e47 : S' 47 = S 47) : jq_C S' p n σ := by
  unfold jq_C
  rw [e3, e47]
  exact h
theorem jy_Pf_e {S S' : Nat → Nat → Int32} {x : Int32} {hm : jx_H} {b : Nat} (h : jy_Pf S x hm b) (e5 : S' 5 = S 5) (e40 : S' 40 = S 40) (e41 : S' 41 = S 41) : jy_Pf S' x hm b := by
  unfold jy_Pf
  rw [e5, e40, e41]
  exact h
theorem jy_Pm_e {S S' : Nat → Nat → Int32} {hm : jx_H} {b : Nat} (h : jy_Pm S hm b) (e5 : S' 5 = S 5) : jy_Pm S' hm b := by
  unfold jy_Pm
  rw [e5]
  exact h
set_option maxHeartbeats 800000 in
set_option maxRecDepth 100000 in
theorem lp_weigh {d n0 : Nat} {Q : Option jx_V → jx_H → Prop} {h hm : jx_H} {b r p dp : Nat} {T S0 S1 : Nat → Nat → Int32} (S : Nat → Nat → Int32) (l : Nat) (hw : jz_W hm b) (hmo : ¬ jC hm b 0 0 = 0) (hR : jy_R h r hm b) (hT : jy_T (jy_np h r) T (jA hm)) (hp : p < 5) (hdp : dp < 4) (hl : l ≤ 32) (h8 : S0 3 8 = nI p) (hP : jy_Pf S1 (jh_I h 7 r 13) hm b) (hM : jy_Pm S1 hm b) (f1 : ∀ x, x ≠ 5 → x ≠ 37 → x ≠ 40 → x ≠ 41 → S1 x = S0 x) (fS : ∀ x, x ≠ 37 → x ≠ 46 → S x = S1 x) (g0 : ∀ i, i < dp * 32 → S 46 i = S0 46 i) (g1 : ∀ q, q < l → ¬ jw_mayb hm b q = 0 → S 46 (dp * 32 + q) = jw_worth hm b p (nI q) (jz_nd hm b)) (k : ∀ (S' : Nat → Nat → Int32) (v : Int32), (∀ x, x ≠ 5 → x ≠ 37 → x ≠ 40 → x ≠ 41 → x ≠ 46 → S' x = S0 x) → (∀ i, i < dp * 32 → S' 46 i = S0 46 i) → (∀ q, q < 32 → ¬ jw_mayb hm b q = 0 → S' 46 (dp * 32 + q) = jw_worth hm b p (nI q) (jz_nd hm b)) → (∀ q, q < 32 → jy_u v q = jw_mayb hm b q) → Q (some (jv_i v)) (jP (jK h 4 T (r + 1)) S' (4 + 1)))  : jx_W (jm_For_weigh, d + 5, 0, 0, false, 0, n0) Q 0 0 7 [some (jv_r 3 0), some (jv_i (nI dp)), some (jv_i (nI l))] [] (jP (jK h 4 T (r + 1)) S (4 + 1)) := by
  refine jr_iload rfl rfl ?_
  refine jr_ic rfl ?_
  refine jr_icmp_ge rfl (fun c9 => ?_) (fun c9 => ?_)
  · refine jr_aload rfl rfl ?_
    refine jr_getR rfl rfl rfl rfl (Or.inl rfl) ?_
    refine jr_getI rfl rfl ?_
    refine jr_iret rfl rfl (Nat.zero_le _) (Nat.zero_le _) ?_
    have hx1 : 32 ≤ l := jn_le (show nI 32 ≤ nI l from c9) (by omega) (by omega)
    exact k S _ (fun x z1 z2 z3 z4 z5 => (fS x z2 z5).trans (f1 x z1 z2 z3 z4)) g0 (fun q hq => g1 q (by omega)) (fun q hq => (jy_Pm_e hM (fS 5 (by decide) (by decide))) q hq)
  · have hl1 : l < 32 := jn_nle (show ¬ nI 32 ≤ nI l from c9) (by omega) (by omega)
    refine jr_aload rfl rfl ?_
    refine jr_getR rfl rfl rfl rfl (Or.inl rfl) ?_
    refine jr_iload rfl rfl ?_
    refine jr_cv1 (mc' := 0) (ms' := 0) rfl jm_Poll_mayBe_n jm_Poll_mayBe_f rfl rfl rfl rfl rfl rfl rfl (Nat.zero_le _) (Nat.zero_le _) ?_
    refine ev_Poll_mayBe hl1 ?_
    rw [(jy_Pm_e hM (fS 5 (by decide) (by decide))) l hl1, jw_mayb_if]
    refine jr_if_eq rfl (fun c14 => ?_) (fun c14 => ?_)
    · refine jr_iinc2 rfl rfl ?_
      refine jr_goto rfl ?_
      rw [jn_S]
      refine lp_weigh S (l + 1) hw hmo hR hT hp hdp (by omega) h8 hP hM f1 fS g0 (fun q hq hn => ?_) k
      by_cases e : q = l
      · rw [e] at hn; exact absurd c14 hn
      · exact g1 q (by omega) hn
    · refine jr_aload rfl rfl ?_
      refine jr_getR rfl rfl rfl rfl (Or.inl rfl) ?_
      refine jr_iload rfl rfl ?_
      refine jr_ic rfl ?_
      refine jr_imul rfl ?_
      refine jr_iload rfl rfl ?_
      refine jr_iadd rfl ?_
      rw [show nI dp * 32 + nI l = nI (dp * 32 + l) from jn_add (jn_mul rfl (jn_c 32)) rfl]
      refine jr_aload rfl rfl ?_
      refine jr_getR rfl rfl rfl rfl (Or.inl rfl) ?_
      refine jr_aload rfl rfl ?_
      refine jr_getI rfl rfl ?_
      rw [show jh_I (jP (jK h 4 T (r + 1)) S (4 + 1)) 3 0 8 = nI p from (congrFun (fS 3 (by decide) (by decide)) 8).trans ((congrFun (f1 3 (by decide) (by decide) (by decide) (by decide)) 8).trans h8)]
      refine jr_iload rfl rfl ?_
      refine jr_cv2 (mc' := 0) (ms' := 0) rfl jm_Poll_worthOf_n jm_Poll_worthOf_f rfl rfl rfl rfl rfl rfl rfl (Nat.zero_le _) (Nat.zero_le _) ?_
      show jx_W (jm_Poll_worthOf, _, _, _, _, _, _) _ 0 0 0 [some _, some _, some _] [] _
      refine jr_aload rfl rfl ?_
      refine jr_iload rfl rfl ?_
      refine jr_iload rfl rfl ?_
      refine jr_iload rfl rfl ?_
      refine jr_cv3 (mc' := 0) (ms' := 0) rfl jm_Poll_valueOf_n jm_Poll_valueOf_f rfl rfl rfl rfl rfl rfl rfl (Nat.zero_le _) (Nat.zero_le _) ?_
      refine eP_worth (c := 4) hw hmo ⟨rfl, hT.1, hT.2.1, hT.2.2.1, hT.2.2.2⟩ hR (jy_Pf_e hP (fS 5 (by decide) (by decide)) (fS 40 (by decide) (by decide)) (fS 41 (by decide) (by decide))) hp hl1 (fun S2 f2 => ?_)
      refine jr_iret rfl rfl (Nat.zero_le _) (Nat.zero_le _) ?_
      refine jr_iast (len := 128) rfl rfl rfl (by omega) ?_
      refine jr_iinc2 rfl rfl ?_
      refine jr_goto rfl ?_
      simp only [jP_46, jP_r46]
      rw [jn_S]
      refine lp_weigh _ (l + 1) hw hmo hR hT hp hdp (by omega) h8 hP hM f1 (fun x h1 h2 => (if_neg h2).trans ((f2 x h1).trans (fS x h1 h2))) (fun i hi => ?_) (fun q hq hn => ?_) k
      · show upd (S2 46) (dp * 32 + l) _ i = _
        rw [jg_un (by omega), f2 46 (by decide)]; exact g0 i hi
      · show upd (S2 46) (dp * 32 + l) _ (dp * 32 + q) = _
        by_cases e : q = l
        · rw [e, jg_us]
        · rw [jg_un (by omega), f2 46 (by decide)]; exact g1 q (by omega) hn
termination_by 32 - l
decreasing_by all_goals omega

set_option maxHeartbeats 800000 in
set_option maxRecDepth 100000 in
theorem ev_weigh {d : Nat} {h : jx_H} {Q : Option jx_V → jx_H → Prop} {hm : jx_H} {b r p dp kc : Nat} {T S0 : Nat → Nat → Int32} (hw : jz_W hm b) (hmo : ¬ jC hm b 0 0 = 0) (hR : jy_R h r hm b) (hT : jy_T (jy_np h r) T (jA hm)) (hp : p < 5) (hdp : dp < 4) (h8 : S0 3 8 = nI p) (k : ∀ (S' : Nat → Nat → Int32) (v : Int32), (∀ x, x ≠ 5 → x ≠ 37 → x ≠ 40 → x ≠ 41 → x ≠ 46 → S' x = S0 x) → (∀ i, i < dp * 32 → S' 46 i = S0 46 i) → (∀ q, q < 32 → ¬ jw_mayb hm b q = 0 → S' 46 (dp * 32 + q) = jw_worth hm b p (nI q) (jz_nd hm b)) → (∀ q, q < 32 → jy_u v q = jw_mayb hm b q) → Q (some (jv_i v)) (jP (jK h 4 T (r + 1)) S' (4 + 1)))  : jx_Ev jm_For_weigh (d + 5) 0 0 false 0 [jv_r 3 0, jv_i (nI dp)] (jP (jK h 4 T (r + 1)) S0 kc) Q := by
  show jx_W (jm_For_weigh, d + 5, 0, 0, false, 0, _) Q 0 0 0 [some (jv_r 3 0), some (jv_i (nI dp)), none] [] _
  refine jr_aload rfl rfl ?_
  refine jr_getR rfl rfl rfl rfl (Or.inl rfl) ?_
  refine jr_aload rfl rfl ?_
  refine jr_getR rfl rfl rfl rfl (Or.inl rfl) ?_
  refine jr_cv1 (mc' := 0) (ms' := 0) rfl jm_Poll_open_n jm_Poll_open_f rfl rfl rfl rfl rfl rfl rfl (Nat.zero_le _) (Nat.zero_le _) ?_
  refine ev_openF (c := 4) (r := r) (hm := hm) (b := b) (h := jK h 4 T (r + 1)) hw ⟨rfl, hT.1, hT.2.1, hT.2.2.1, hT.2.2.2⟩ hR hmo (fun S1 f1 hP1 hM1 => ?_)
  refine jr_ic rfl ?_
  refine jr_ist2 rfl rfl ?_
  exact lp_weigh S1 0 hw hmo hR hT hp hdp (by omega) h8 hP1 hM1 f1 (fun _ _ _ => rfl) (fun i _ => congrFun (f1 46 (by decide) (by decide) (by decide) (by decide)) i) (fun q hq => absurd hq (by omega)) k

set_option maxHeartbeats 800000 in
set_option maxRecDepth 100000 in
theorem lp_look0 {d n0 : Nat} {Q : Option jx_V → jx_H → Prop} {h hm : jx_H} {b r p dp n w kc : Nat} {a : jw_A} {s v0 : Int32} {row : Nat → Int32} {T0 S0 T S : Nat → Nat → Int32} (l : Nat) (σ : jq_S) (hB : jz_B hm b) (hmo : ¬ jC hm b 0 0 = 0) (hR : jy_R h r hm b) (hA : jz_A (jz_np hm b) (jz_nm hm b) a) (hw0 : a 0 = nI w) (hp : p < 5) (hdn : dp + 1 = n) (hn4 : n ≤ 4) (hwn : w + 1 ≤ 511) (hT : jy_T (jy_np h r) T a) (hl : l ≤ 32) (hv0 : ∀ q, q < 32 → jy_u v0 q = jw_mayb (jw_h hm a) b q) (hC : jq_C S p n σ) (hT0 : ∀ j, j < w → T 31 j = T0 31 j) (hrow : ∀ j, j < dp → S 45 j = row j) (h46 : ∀ i, i < dp * 32 → S 46 i = S0 46 i) (hW : ∀ q, q < 32 → ¬ jw_mayb (jw_h hm a) b q = 0 → S 46 (dp * 32 + q) = (jw_worth (jw_h hm a) b p (nI q) (jz_nd hm b))) (k : ∀ (v : Int32) (T' S' : Nat → Nat → Int32) (kc' : Nat), jy_T (jy_np h r) T' a → (∀ j, j < w → T' 31 j = T0 31 j) → (v = 0 ∧ (jq_len (jw_mayb (jw_h hm a) b) (fun l σ => jq_go hm b p 0 (dp + 1) (jw_gb (jC hm b) (jz_nd hm b) (nI l) a) (s + (jw_worth (jw_h hm a) b p (nI l) (jz_nd hm b))) (upd row dp (nI l)) σ) (32 - l) l σ) = none ∨ v = 1 ∧ ∃ σ', (jq_len (jw_mayb (jw_h hm a) b) (fun l σ => jq_go hm b p 0 (dp + 1) (jw_gb (jC hm b) (jz_nd hm b) (nI l) a) (s + (jw_worth (jw_h hm a) b p (nI l) (jz_nd hm b))) (upd row dp (nI l)) σ) (32 - l) l σ) = some σ' ∧ jq_C S' p n σ' ∧ (∀ j, j < dp → S' 45 j = row j) ∧ (∀ i, i < dp * 32 → S' 46 i = S0 46 i)) → Q (some (jv_i v)) (jP (jK h 4 T' (r + 1)) S' kc'))  : jx_W (jm_For_lookOn, d + 6, 0, 0, false, 0, n0) Q 0 0 13 [some (jv_r 3 0), some (jv_i (nI dp)), some (jv_i s), some (jv_i v0), some (jv_i (nI l))] [] (jP (jK h 4 T (r + 1)) S kc) := by
  refine jr_iload rfl rfl ?_
  refine jr_ic rfl ?_
  refine jr_icmp_ge rfl (fun c15 => ?_) (fun c15 => ?_)
  · refine jr_ic rfl ?_
    refine jr_zret rfl rfl rfl (Nat.zero_le _) (Nat.zero_le _) ?_
    have hx1 : 32 ≤ l := jn_le (show nI 32 ≤ nI l from c15) (by omega) (by omega)
    refine k 1 T S kc hT hT0 (Or.inr ⟨rfl, σ, ?_, hC, hrow, h46⟩)
    rw [show 32 - l = 0 by omega, jq_len]
  · have hl1 : l < 32 := jn_nle (show ¬ nI 32 ≤ nI l from c15) (by omega) (by omega)
    have hn : 32 - l = (32 - (l + 1)) + 1 := by omega
    refine jr_iload rfl rfl ?_
    refine jr_iload rfl rfl ?_
    refine jr_iushr rfl ?_
    refine jr_ic rfl ?_
    refine jr_iand rfl ?_
    refine jr_if_eq rfl (fun c21 => ?_) (fun c21 => ?_)
    · refine jr_iinc4 rfl rfl ?_
      refine jr_goto rfl ?_
      rw [jn_S]
      refine lp_look0 (row := row) (s := s) (S0 := S0) (T0 := T0) (l + 1) σ hB hmo hR hA hw0 hp hdn hn4 hwn hT (by omega) hv0 hC hT0 hrow h46 hW (fun v T' S' kc' z1 z2 z3 => k v T' S' kc' z1 z2 ?_)
      rw [hn, jq_len, if_pos ((hv0 l hl1).symm.trans c21)]
      exact z3
    · have hM1 : ¬ jw_mayb (jw_h hm a) b l = 0 := fun z => c21 ((hv0 l hl1).trans z)
      obtain ⟨i1, i2, i3, i4, i5⟩ := hC
      refine jr_aload rfl rfl ?_
      refine jr_dup_r rfl ?_
      refine jr_getI rfl rfl ?_
      refine jr_ic rfl ?_
      refine jr_iadd rfl ?_
      refine jr_putI rfl rfl ?_
      simp only [jP_3, jP_r3]
      refine jr_aload rfl rfl ?_
      refine jr_getI rfl rfl ?_
      rw [show jh_I (jP (jK h 4 T (r + 1)) (fun x => if x = 3 then upd (S 3) 7 (S 3 7 + 1) else S x) kc) 3 0 7 = nI (σ.1 + 1) from (congrArg (· + 1) i3).trans (jn_S _)]
      refine jr_ic rfl ?_
      refine jr_icmp_le rfl (fun c31 => ?_) (fun c31 => ?_)
      · have hlk : σ.1 + 1 ≤ 20000 := jn_le (show nI (σ.1 + 1) ≤ nI 20000 from c31) (by omega) (by decide)
        refine jr_aload rfl rfl ?_
        refine jr_getR rfl rfl rfl rfl (Or.inl rfl) ?_
        refine jr_iload rfl rfl ?_
        refine jr_iload rfl rfl ?_
        refine jr_iast (len := 4) rfl rfl rfl (by omega) ?_
        simp only [jP_45, jP_r45]
        refine jr_aload rfl rfl ?_
        refine jr_iload rfl rfl ?_
        refine jr_iload rfl rfl ?_
        refine jr_iload rfl rfl ?_
        refine jr_aload rfl rfl ?_
        refine jr_getR rfl rfl rfl rfl (Or.inl rfl) ?_
        refine jr_iload rfl rfl ?_
        refine jr_ic rfl ?_
        refine jr_imul rfl ?_
        refine jr_iload rfl rfl ?_
        refine jr_iadd rfl ?_
        rw [show nI dp * 32 + nI l = nI (dp * 32 + l) from jn_add (jn_mul rfl (jn_c 32)) rfl]
        refine jr_iald (len := 128) rfl rfl rfl (by omega) ?_
        rw [show jh_I (jP (jK h 4 T (r + 1)) (fun x => if x = 45 then upd (if 45 = 3 then upd (S 3) 7 (S 3 7 + 1) else S 45) dp (nI l) else if x = 3 then upd (S 3) 7 (S 3 7 + 1) else S x) kc) 46 0 (dp * 32 + l) = (jw_worth (jw_h hm a) b p (nI l) (jz_nd hm b)) from hW l hl1 hM1]
        refine jr_iadd rfl ?_
        refine jr_cv3 (mc' := 0) (ms' := 0) rfl jm_For_lookBehind_n jm_For_lookBehind_f rfl rfl rfl rfl rfl rfl rfl (Nat.zero_le _) (Nat.zero_le _) ?_
        show jx_W (jm_For_lookBehind, _, _, _, _, _, _) _ 0 0 0 [some _, some _, some _, some _, none] [] _
        refine jr_iload rfl rfl ?_
        refine jr_ic rfl ?_
        refine jr_iadd rfl ?_
        refine jr_aload rfl rfl ?_
        refine jr_getI rfl rfl ?_
        rw [show jh_I (jP (jK h 4 T (r + 1)) (fun x => if x = 45 then upd (if 45 = 3 then upd (S 3) 7 (S 3 7 + 1) else S 45) dp (nI l) else if x = 3 then upd (S 3) 7 (S 3 7 + 1) else S x) kc) 3 0 9 = nI n from i2, jn_S]
        refine jr_icmp_lt rfl (fun z => absurd z (nI_nlt (a := dp + 1) (b := n) (by omega) (by omega))) (fun _ => ?_)
        refine jr_aload rfl rfl ?_
        refine jr_iload rfl rfl ?_
        refine jr_cv1 (mc' := 0) (ms' := 0) rfl jm_For_compare_n jm_For_compare_f rfl rfl rfl rfl rfl rfl rfl (Nat.zero_le _) (Nat.zero_le _) ?_
        show jx_W (jm_For_compare, _, _, _, _, _, _) _ 0 0 0 [some _, some _] [] _
        refine jr_aload rfl rfl ?_
        refine jr_getZ rfl rfl ?_
        refine jr_if_eq rfl (fun c2Forcompare => ?_) (fun c2Forcompare => ?_)
        · refine jr_aload rfl rfl ?_
          refine jr_ic rfl ?_
          refine jr_putZ rfl rfl (by first | exact Or.inl rfl | exact Or.inr rfl | assumption) ?_
          simp only [jP_3, jP_r3]
          refine jr_aload rfl rfl ?_
          refine jr_iload rfl rfl ?_
          refine jr_putI rfl rfl ?_
          simp only [jP_3, jP_r3]
          refine jr_aload rfl rfl ?_
          refine jr_getR rfl rfl rfl rfl (Or.inl rfl) ?_
          refine jr_ic rfl ?_
          refine jr_aload rfl rfl ?_
          refine jr_getR rfl rfl rfl rfl (Or.inl rfl) ?_
          refine jr_ic rfl ?_
          refine jr_ic rfl ?_
          refine jr_copy (len0 := 4) (len := 4) (sp := 0) (dp := 0) (m := 4) rfl rfl rfl (Nat.succ_le_succ (Nat.zero_le _)) rfl rfl rfl rfl rfl (by omega) (by omega) ?_
          simp only [jP_47, jP_r47, jP_r45]
          refine jr_vret rfl rfl (Nat.zero_le _) (Nat.zero_le _) ?_
          refine jr_ic rfl ?_
          refine jr_zret rfl rfl rfl (Nat.zero_le _) (Nat.zero_le _) ?_
          refine jr_if_ne rfl (fun _ => ?_) (fun z => absurd z (by decide))
          refine jr_iinc4 rfl rfl ?_
          refine jr_goto rfl ?_
          have hno : σ.2 = none := by
            rcases i5 with ⟨z, -⟩ | ⟨v, R, -, z, -⟩
            · exact z
            · exact absurd (z.symm.trans c2Forcompare) (by decide)
          rw [jn_S]
          refine lp_look0 (row := row) (s := s) (S0 := S0) (T0 := T0) (l + 1) (σ.1 + 1, some (s + (jw_worth (jw_h hm a) b p (nI l) (jz_nd hm b)), upd row dp (nI l))) hB hmo hR hA hw0 hp hdn hn4 hwn hT (by omega) hv0 ?_ hT0 (fun j hj => ?_) (fun i hi => h46 i hi) (fun q hq hq0 => hW q hq hq0) (fun v T' S' kc' z1 z2 z3 => k v T' S' kc' z1 z2 ?_)
          · refine ⟨i1, i2, ?_, by show σ.1 + 1 ≤ 20000; omega, Or.inr ⟨_, _, rfl, rfl, rfl, fun j hj => ?_⟩⟩
            · exact (congrArg (· + 1) i3).trans (jn_S _)
            · refine (jw_cpy0 (by omega)).trans ?_
              show upd (S 45) dp (nI l) j = upd row dp (nI l) j
              by_cases e : j = dp
              · rw [e, jg_us, jg_us]
              · rw [jg_un e, jg_un e]; exact hrow j (by omega)
          · show upd (S 45) dp (nI l) j = row j
            rw [jg_un (by omega)]; exact hrow j hj
          · rw [hn, jq_len, if_neg hM1, if_neg (by omega)]
            show _ ∨ _
            rw [show jq_go hm b p 0 (dp + 1) (jw_gb (jC hm b) (jz_nd hm b) (nI l) a) (s + (jw_worth (jw_h hm a) b p (nI l) (jz_nd hm b))) (upd row dp (nI l)) (σ.1 + 1, σ.2) = some (σ.1 + 1, some (s + (jw_worth (jw_h hm a) b p (nI l) (jz_nd hm b)), upd row dp (nI l))) from by rw [hno]; rfl]
            exact z3
        · refine jr_iload rfl rfl ?_
          refine jr_aload rfl rfl ?_
          refine jr_getI rfl rfl ?_
          refine jr_icmp_le rfl (fun c6Forcompare => ?_) (fun c6Forcompare => ?_)
          · refine jr_vret rfl rfl (Nat.zero_le _) (Nat.zero_le _) ?_
            refine jr_ic rfl ?_
            refine jr_zret rfl rfl rfl (Nat.zero_le _) (Nat.zero_le _) ?_
            refine jr_if_ne rfl (fun _ => ?_) (fun z => absurd z (by decide))
            refine jr_iinc4 rfl rfl ?_
            refine jr_goto rfl ?_
            obtain ⟨v1, R1, hsm, y1, y2, y3⟩ : ∃ v R, σ.2 = some (v, R) ∧ S 3 6 = 1 ∧ S 3 5 = v ∧ ∀ j, j < n → S 47 j = R j := by
              rcases i5 with ⟨-, z⟩ | z
              · exact absurd z c2Forcompare
              · exact z
            rw [jn_S]
            refine lp_look0 (row := row) (s := s) (S0 := S0) (T0 := T0) (l + 1) (σ.1 + 1, σ.2) hB hmo hR hA hw0 hp hdn hn4 hwn hT (by omega) hv0 ?_ hT0 (fun j hj => ?_) (fun i hi => h46 i hi) (fun q hq hq0 => hW q hq hq0) (fun v T' S' kc' z1 z2 z3 => k v T' S' kc' z1 z2 ?_)
            · refine ⟨i1, i2, ?_, by show σ.1 + 1 ≤ 20000; omega, Or.inr ⟨v1, R1, hsm, y1, y2, y3⟩⟩
              exact (congrArg (· + 1) i3).trans (jn_S _)
            · show upd (S 45) dp (nI l) j = row j
              rw [jg_un (by omega)]; exact hrow j hj
            · rw [hn, jq_len, if_neg hM1, if_neg (by omega)]
              show _ ∨ _
              rw [show jq_go hm b p 0 (dp + 1) (jw_gb (jC hm b) (jz_nd hm b) (nI l) a) (s + (jw_worth (jw_h hm a) b p (nI l) (jz_nd hm b))) (upd row dp (nI l)) (σ.1 + 1, σ.2) = some (σ.1 + 1, σ.2) from by rw [hsm]; exact congrArg some (if_neg (Int32.not_lt.mpr (show s + (jw_worth (jw_h hm a) b p (nI l) (jz_nd hm b)) ≤ v1 from y2 ▸ c6Forcompare)))]
              exact z3
          · refine jr_aload rfl rfl ?_
            refine jr_ic rfl ?_
            refine jr_putZ rfl rfl (by first | exact Or.inl rfl | exact Or.inr rfl | assumption) ?_
            simp only [jP_3, jP_r3]
            refine jr_aload rfl rfl ?_
            refine jr_iload rfl rfl ?_
            refine jr_putI rfl rfl ?_
            simp only [jP_3, jP_r3]
            refine jr_aload rfl rfl ?_
            refine jr_getR rfl rfl rfl rfl (Or.inl rfl) ?_
            refine jr_ic rfl ?_
            refine jr_aload rfl rfl ?_
            refine jr_getR rfl rfl rfl rfl (Or.inl rfl) ?_
            refine jr_ic rfl ?_
            refine jr_ic rfl ?_
            refine jr_copy (len0 := 4) (len := 4) (sp := 0) (dp := 0) (m := 4) rfl rfl rfl (Nat.succ_le_succ (Nat.zero_le _)) rfl rfl rfl rfl rfl (by omega) (by omega) ?_
            simp only [jP_47, jP_r47, jP_r45]
            refine jr_vret rfl rfl (Nat.zero_le _) (Nat.zero_le _) ?_
            refine jr_ic rfl ?_
            refine jr_zret rfl rfl rfl (Nat.zero_le _) (Nat.zero_le _) ?_
            refine jr_if_ne rfl (fun _ => ?_) (fun z => absurd z (by decide))
            refine jr_iinc4 rfl rfl ?_
            refine jr_goto rfl ?_
            obtain ⟨v1, R1, hsm, y1, y2, y3⟩ : ∃ v R, σ.2 = some (v, R) ∧ S 3 6 = 1 ∧ S 3 5 = v ∧ ∀ j, j < n → S 47 j = R j := by
              rcases i5 with ⟨-, z⟩ | z
              · exact absurd z c2Forcompare
              · exact z
            rw [jn_S]
            refine lp_look0 (row := row) (s := s) (S0 := S0) (T0 := T0) (l + 1) (σ.1 + 1, some (s + (jw_worth (jw_h hm a) b p (nI l) (jz_nd hm b)), upd row dp (nI l))) hB hmo hR hA hw0 hp hdn hn4 hwn hT (by omega) hv0 ?_ hT0 (fun j hj => ?_) (fun i hi => h46 i hi) (fun q hq hq0 => hW q hq hq0) (fun v T' S' kc' z1 z2 z3 => k v T' S' kc' z1 z2 ?_)
            · refine ⟨i1, i2, ?_, by show σ.1 + 1 ≤ 20000; omega, Or.inr ⟨_, _, rfl, rfl, rfl, fun j hj => ?_⟩⟩
              · exact (congrArg (· + 1) i3).trans (jn_S _)
              · refine (jw_cpy0 (by omega)).trans ?_
                show upd (S 45) dp (nI l) j = upd row dp (nI l) j
                by_cases e : j = dp
                · rw [e, jg_us, jg_us]
                · rw [jg_un e, jg_un e]; exact hrow j (by omega)
            · show upd (S 45) dp (nI l) j = row j
              rw [jg_un (by omega)]; exact hrow j hj
            · rw [hn, jq_len, if_neg hM1, if_neg (by omega)]
              show _ ∨ _
              rw [show jq_go hm b p 0 (dp + 1) (jw_gb (jC hm b) (jz_nd hm b) (nI l) a) (s + (jw_worth (jw_h hm a) b p (nI l) (jz_nd hm b))) (upd row dp (nI l)) (σ.1 + 1, σ.2) = some (σ.1 + 1, some (s + (jw_worth (jw_h hm a) b p (nI l) (jz_nd hm b)), upd row dp (nI l))) from by rw [hsm]; exact congrArg some (if_pos (Int32.not_le.mp (show ¬ s + (jw_worth (jw_h hm a) b p (nI l) (jz_nd hm b)) ≤ v1 from y2 ▸ c6Forcompare)))]
              exact z3
      · refine jr_ic rfl ?_
        refine jr_zret rfl rfl rfl (Nat.zero_le _) (Nat.zero_le _) ?_
        have hlk : ¬ σ.1 + 1 ≤ 20000 := fun z => c31 (nI_le (b := 20000) z (by decide))
        refine k 0 T _ kc hT hT0 (Or.inl ⟨rfl, ?_⟩)
        rw [hn, jq_len, if_neg hM1, if_pos (by omega)]
termination_by 32 - l
decreasing_by all_goals omega

def jq_CL (h hm : jx_H) (b r p n u : Nat) : Prop := ∀ (d dp w kc : Nat) (a : jw_A) (s : Int32) (row : Nat → Int32) (T0 S0 : Nat → Nat → Int32) (σ : jq_S) (Q : Option jx_V → jx_H → Prop), jz_A (jz_np hm b) (jz_nm hm b) a → a 0 = nI w → dp + u = n → w + u ≤ 511 → jy_T (jy_np h r) T0 a → jq_C S0 p n σ → (∀ j, j < dp → S0 45 j = row j) → (∀ (v : Int32) (T' S' : Nat → Nat → Int32) (kc' : Nat), jy_T (jy_np h r) T' a → (∀ j, j < w → T' 31 j = T0 31 j) → (v = 0 ∧ (jq_go hm b p u dp a s row σ) = none ∨ v = 1 ∧ ∃ σ', (jq_go hm b p u dp a s row σ) = some σ' ∧ jq_C S' p n σ' ∧ (∀ j, j < dp → S' 45 j = row j) ∧ (∀ i, i < dp * 32 → S' 46 i = S0 46 i)) → Q (some (jv_i v)) (jP (jK h 4 T' (r + 1)) S' kc')) → jx_Ev jm_For_lookOn (d + 2 * u + 6) 0 0 false 0 [jv_r 3 0, jv_i (nI dp), jv_i s] (jP (jK h 4 T0 (r + 1)) S0 kc) Q
set_option maxHeartbeats 800000 in
set_option maxRecDepth 100000 in
theorem lp_look1 {d n0 : Nat} {Q : Option jx_V → jx_H → Prop} {h hm : jx_H} {b r p dp n w kc : Nat} {a : jw_A} {s v0 : Int32} {row : Nat → Int32} {T0 S0 T S : Nat → Nat → Int32} {u : Nat} (IH : jq_CL h hm b r p n (u + 1)) (l : Nat) (σ : jq_S) (hB : jz_B hm b) (hmo : ¬ jC hm b 0 0 = 0) (hR : jy_R h r hm b) (hA : jz_A (jz_np hm b) (jz_nm hm b) a) (hw0 : a 0 = nI w) (hp : p < 5) (hdn : dp + (u + 1 + 1) = n) (hn4 : n ≤ 4) (hwn : w + (u + 1 + 1) ≤ 511) (hT : jy_T (jy_np h r) T a) (hl : l ≤ 32) (hv0 : ∀ q, q < 32 → jy_u v0 q = jw_mayb (jw_h hm a) b q) (hC : jq_C S p n σ) (hT0 : ∀ j, j < w → T 31 j = T0 31 j) (hrow : ∀ j, j < dp → S 45 j = row j) (h46 : ∀ i, i < dp * 32 → S 46 i = S0 46 i) (hW : ∀ q, q < 32 → ¬ jw_mayb (jw_h hm a) b q = 0 → S 46 (dp * 32 + q) = (jw_worth (jw_h hm a) b p (nI q) (jz_nd hm b))) (k : ∀ (v : Int32) (T' S' : Nat → Nat → Int32) (kc' : Nat), jy_T (jy_np h r) T' a → (∀ j, j < w → T' 31 j = T0 31 j) → (v = 0 ∧ (jq_len (jw_mayb (jw_h hm a) b) (fun l σ => jq_go hm b p (u + 1) (dp + 1) (jw_gb (jC hm b) (jz_nd hm b) (nI l) a) (s + (jw_worth (jw_h hm a) b p (nI l) (jz_nd hm b))) (upd row dp (nI l)) σ) (32 - l) l σ) = none ∨ v = 1 ∧ ∃ σ', (jq_len (jw_mayb (jw_h hm a) b) (fun l σ => jq_go hm b p (u + 1) (dp + 1) (jw_gb (jC hm b) (jz_nd hm b) (nI l) a) (s + (jw_worth (jw_h hm a) b p (nI l) (jz_nd hm b))) (upd row dp (nI l)) σ) (32 - l) l σ) = some σ' ∧ jq_C S' p n σ' ∧ (∀ j, j < dp → S' 45 j = row j) ∧ (∀ i, i < dp * 32 → S' 46 i = S0 46 i)) → Q (some (jv_i v)) (jP (jK h 4 T' (r + 1)) S' kc'))  : jx_W (jm_For_lookOn, d + 2 * (u + 1 + 1) + 6, 0, 0, false, 0, n0) Q 0 0 13 [some (jv_r 3 0), some (jv_i (nI dp)), some (jv_i s), some (jv_i v0), some (jv_i (nI l))] [] (jP (jK h 4 T (r + 1)) S kc) := by
  refine jr_iload rfl rfl ?_
  refine jr_ic rfl ?_
  refine jr_icmp_ge rfl (fun c15 => ?_) (fun c15 => ?_)
  · refine jr_ic rfl ?_
    refine jr_zret rfl rfl rfl (Nat.zero_le _) (Nat.zero_le _) ?_
    have hx1 : 32 ≤ l := jn_le (show nI 32 ≤ nI l from c15) (by omega) (by omega)
    refine k 1 T S kc hT hT0 (Or.inr ⟨rfl, σ, ?_, hC, hrow, h46⟩)
    rw [show 32 - l = 0 by omega, jq_len]
  · have hl1 : l < 32 := jn_nle (show ¬ nI 32 ≤ nI l from c15) (by omega) (by omega)
    have hn : 32 - l = (32 - (l + 1)) + 1 := by omega
    refine jr_iload rfl rfl ?_
    refine jr_iload rfl rfl ?_
    refine jr_iushr rfl ?_
    refine jr_ic rfl ?_
    refine jr_iand rfl ?_
    refine jr_if_eq rfl (fun c21 => ?_) (fun c21 => ?_)
    · refine jr_iinc4 rfl rfl ?_
      refine jr_goto rfl ?_
      rw [jn_S]
      refine lp_look1 (row := row) (s := s) (S0 := S0) (T0 := T0) IH (l + 1) σ hB hmo hR hA hw0 hp hdn hn4 hwn hT (by omega) hv0 hC hT0 hrow h46 hW (fun v T' S' kc' z1 z2 z3 => k v T' S' kc' z1 z2 ?_)
      rw [hn, jq_len, if_pos ((hv0 l hl1).symm.trans c21)]
      exact z3
    · have hM1 : ¬ jw_mayb (jw_h hm a) b l = 0 := fun z => c21 ((hv0 l hl1).trans z)
      obtain ⟨i1, i2, i3, i4, i5⟩ := hC
      refine jr_aload rfl rfl ?_
      refine jr_dup_r rfl ?_
      refine jr_getI rfl rfl ?_
      refine jr_ic rfl ?_
      refine jr_iadd rfl ?_
      refine jr_putI rfl rfl ?_
      simp only [jP_3, jP_r3]
      refine jr_aload rfl rfl ?_
      refine jr_getI rfl rfl ?_
      rw [show jh_I (jP (jK h 4 T (r + 1)) (fun x => if x = 3 then upd (S 3) 7 (S 3 7 + 1) else S x) kc) 3 0 7 = nI (σ.1 + 1) from (congrArg (· + 1) i3).trans (jn_S _)]
      refine jr_ic rfl ?_
      refine jr_icmp_le rfl (fun c31 => ?_) (fun c31 => ?_)
      · have hlk : σ.1 + 1 ≤ 20000 := jn_le (show nI (σ.1 + 1) ≤ nI 20000 from c31) (by omega) (by decide)
        refine jr_aload rfl rfl ?_
        refine jr_getR rfl rfl rfl rfl (Or.inl rfl) ?_
        refine jr_iload rfl rfl ?_
        refine jr_iload rfl rfl ?_
        refine jr_iast (len := 4) rfl rfl rfl (by omega) ?_
        simp only [jP_45, jP_r45]
        refine jr_aload rfl rfl ?_
        refine jr_iload rfl rfl ?_
        refine jr_iload rfl rfl ?_
        refine jr_iload rfl rfl ?_
        refine jr_aload rfl rfl ?_
        refine jr_getR rfl rfl rfl rfl (Or.inl rfl) ?_
        refine jr_iload rfl rfl ?_
        refine jr_ic rfl ?_
        refine jr_imul rfl ?_
        refine jr_iload rfl rfl ?_
        refine jr_iadd rfl ?_
        rw [show nI dp * 32 + nI l = nI (dp * 32 + l) from jn_add (jn_mul rfl (jn_c 32)) rfl]
        refine jr_iald (len := 128) rfl rfl rfl (by omega) ?_
        rw [show jh_I (jP (jK h 4 T (r + 1)) (fun x => if x = 45 then upd (if 45 = 3 then upd (S 3) 7 (S 3 7 + 1) else S 45) dp (nI l) else if x = 3 then upd (S 3) 7 (S 3 7 + 1) else S x) kc) 46 0 (dp * 32 + l) = (jw_worth (jw_h hm a) b p (nI l) (jz_nd hm b)) from hW l hl1 hM1]
        refine jr_iadd rfl ?_
        refine jr_cv3 (mc' := 0) (ms' := 0) rfl jm_For_lookBehind_n jm_For_lookBehind_f rfl rfl rfl rfl rfl rfl rfl (Nat.zero_le _) (Nat.zero_le _) ?_
        show jx_W (jm_For_lookBehind, _, _, _, _, _, _) _ 0 0 0 [some _, some _, some _, some _, none] [] _
        refine jr_iload rfl rfl ?_
        refine jr_ic rfl ?_
        refine jr_iadd rfl ?_
        refine jr_aload rfl rfl ?_
        refine jr_getI rfl rfl ?_
        rw [show jh_I (jP (jK h 4 T (r + 1)) (fun x => if x = 45 then upd (if 45 = 3 then upd (S 3) 7 (S 3 7 + 1) else S 45) dp (nI l) else if x = 3 then upd (S 3) 7 (S 3 7 + 1) else S x) kc) 3 0 9 = nI n from i2, jn_S]
        refine jr_icmp_lt rfl (fun _ => ?_) (fun z => absurd (nI_lt (a := dp + 1) (b := n) (by omega) (by omega)) z)
        refine jr_aload rfl rfl ?_
        refine jr_getR rfl rfl rfl rfl (Or.inl rfl) ?_
        refine jr_iload rfl rfl ?_
        refine jr_cv1 (mc' := 0) (ms' := 0) rfl jm_Cal_comes_n jm_Cal_comes_f rfl rfl rfl rfl rfl rfl rfl (Nat.zero_le _) (Nat.zero_le _) ?_
        obtain ⟨hA1, hw1⟩ := jz_A_gb hB.2.2 hmo hA hw0 (by omega) (show l ≤ 31 by omega)
        refine ev_comes4 (hm := hm) (b := b) (w := w) hB.2.2 hR hmo hT (nI_pos' (by omega)) hw0 (by omega) (fun T1 hT1 hL1 => ?_)
        refine jr_aload rfl rfl ?_
        refine jr_iload rfl rfl ?_
        refine jr_ic rfl ?_
        refine jr_iadd rfl ?_
        refine jr_iload rfl rfl ?_
        refine jr_cv2 (mc' := 0) (ms' := 0) rfl jm_For_lookOn_n jm_For_lookOn_f rfl rfl rfl rfl rfl rfl rfl (Nat.zero_le _) (Nat.zero_le _) ?_
        rw [jn_S, show d + 2 * (u + 1 + 1) + 4 = d + 2 * (u + 1) + 6 by omega]
        refine IH d _ (w + 1) _ _ _ (upd row dp (nI l)) _ _ (σ.1 + 1, σ.2) _ hA1 hw1 (by omega) (by omega) hT1 ⟨i1, i2, (congrArg (· + 1) i3).trans (jn_S _), by show σ.1 + 1 ≤ 20000; omega, i5⟩ (fun j hj => ?_) (fun v1 T2 S2 kc2 t1 t2 t3 => ?_)
        · show upd (S 45) dp (nI l) j = upd row dp (nI l) j
          by_cases e : j = dp
          · rw [e, jg_us, jg_us]
          · rw [jg_un e, jg_un e]; exact hrow j (by omega)
        refine jr_ist4 rfl rfl ?_
        refine jr_aload rfl rfl ?_
        refine jr_getR rfl rfl rfl rfl (Or.inl rfl) ?_
        refine jr_cv0 (mc' := 0) (ms' := 0) rfl jm_Cal_goes_n jm_Cal_goes_f rfl rfl rfl rfl rfl rfl rfl (Nat.zero_le _) (Nat.zero_le _) ?_
        refine ev_goes4 (hm := hm) (b := b) (w := w) (l := nI l) hB.2.2 hR hmo t1 hw1 (by omega) (by rw [t2 w (by omega), hL1]; exact jg_us _ _ _) (nI_pos' (by omega)) (fun T3 hT3 hL3 => ?_)
        rw [jw_bk_gb hB.2.2] at hT3
        refine jr_iload rfl rfl ?_
        refine jr_zret rfl rfl (by rcases t3 with z | z <;> rw [z.1] <;> rfl) (Nat.zero_le _) (Nat.zero_le _) ?_
        refine jr_if_ne rfl (fun c53 => ?_) (fun c53 => ?_)
        · refine jr_iinc4 rfl rfl ?_
          refine jr_goto rfl ?_
          rcases t3 with ⟨z, -⟩ | ⟨-, σ2, q1, q2, q3, q4⟩
          · exact absurd z c53
          rw [jn_S]
          refine lp_look1 (row := row) (s := s) (S0 := S0) (T0 := T0) IH (l + 1) σ2 hB hmo hR hA hw0 hp hdn hn4 hwn hT3 (by omega) hv0 q2 (fun j hj => ?_) (fun j hj => ?_) (fun i hi => (q4 i (by omega)).trans (h46 i hi)) (fun q hq hq0 => (q4 _ (by omega)).trans (hW q hq hq0)) (fun v T' S' kc' z1 z2 z3 => k v T' S' kc' z1 z2 ?_)
          · rw [hL3, t2 j (by omega), hL1, jg_un (by omega)]; exact hT0 j hj
          · rw [q3 j (by omega), jg_un (by omega)]
          · rw [hn, jq_len, if_neg hM1, if_neg (by omega)]
            show _ ∨ _
            rw [show jq_go hm b p (u + 1) (dp + 1) (jw_gb (jC hm b) (jz_nd hm b) (nI l) a) (s + (jw_worth (jw_h hm a) b p (nI l) (jz_nd hm b))) (upd row dp (nI l)) (σ.1 + 1, σ.2) = some σ2 from q1]
            exact z3
        · refine jr_ic rfl ?_
          refine jr_zret rfl rfl rfl (Nat.zero_le _) (Nat.zero_le _) ?_
          rcases t3 with ⟨-, z⟩ | ⟨z, -⟩
          · refine k 0 T3 _ kc2 hT3 (fun j hj => ?_) (Or.inl ⟨rfl, ?_⟩)
            · rw [hL3, t2 j (by omega), hL1, jg_un (by omega)]; exact hT0 j hj
            · rw [hn, jq_len, if_neg hM1, if_neg (by omega)]
              rw [show jq_go hm b p (u + 1) (dp + 1) (jw_gb (jC hm b) (jz_nd hm b) (nI l) a) (s + (jw_worth (jw_h hm a) b p (nI l) (jz_nd hm b))) (upd row dp (nI l)) (σ.1 + 1, σ.2) = none from z]
              rfl
          · exact absurd (z.symm.trans c53) (by decide)
      · refine jr_ic rfl ?_
        refine jr_zret rfl rfl rfl (Nat.zero_le _) (Nat.zero_le _) ?_
        have hlk : ¬ σ.1 + 1 ≤ 20000 := fun z => c31 (nI_le (b := 20000) z (by decide))
        refine k 0 T _ kc hT hT0 (Or.inl ⟨rfl, ?_⟩)
        rw [hn, jq_len, if_neg hM1, if_pos (by omega)]
termination_by 32 - l
decreasing_by all_goals omega

set_option maxHeartbeats 800000 in
set_option maxRecDepth 100000 in
theorem ev_look0 {d : Nat} {h : jx_H} {Q : Option jx_V → jx_H → Prop} {hm : jx_H} {b r p dp n w kc : Nat} {a : jw_A} {s : Int32} {row : Nat → Int32} {T0 S0 : Nat → Nat → Int32} {σ : jq_S}  (hB : jz_B hm b) (hmo : ¬ jC hm b 0 0 = 0) (hR : jy_R h r hm b) (hA : jz_A (jz_np hm b) (jz_nm hm b) a) (hw0 : a 0 = nI w) (hp : p < 5) (hdn : dp + 1 = n) (hn4 : n ≤ 4) (hwn : w + 1 ≤ 511) (hT : jy_T (jy_np h r) T0 a) (hC : jq_C S0 p n σ) (hrow : ∀ j, j < dp → S0 45 j = row j) (k : ∀ (v : Int32) (T' S' : Nat → Nat → Int32) (kc' : Nat), jy_T (jy_np h r) T' a → (∀ j, j < w → T' 31 j = T0 31 j) → (v = 0 ∧ (jq_go hm b p 1 dp a s row σ) = none ∨ v = 1 ∧ ∃ σ', (jq_go hm b p 1 dp a s row σ) = some σ' ∧ jq_C S' p n σ' ∧ (∀ j, j < dp → S' 45 j = row j) ∧ (∀ i, i < dp * 32 → S' 46 i = S0 46 i)) → Q (some (jv_i v)) (jP (jK h 4 T' (r + 1)) S' kc'))  : jx_Ev jm_For_lookOn (d + 6) 0 0 false 0 [jv_r 3 0, jv_i (nI dp), jv_i s] (jP (jK h 4 T0 (r + 1)) S0 kc) Q := by
  show jx_W (jm_For_lookOn, d + 6, 0, 0, false, 0, _) Q 0 0 0 [some (jv_r 3 0), some (jv_i (nI dp)), some (jv_i s), none, none] [] _
  refine jr_iload rfl rfl ?_
  refine jr_if_lt rfl (fun z => absurd z (nI_pos (by omega))) (fun _ => ?_)
  refine jr_iload rfl rfl ?_
  refine jr_ic rfl ?_
  refine jr_icmp_lt rfl (fun _ => ?_) (fun z => absurd (nI_lt (a := dp) (b := 4) (by omega) (by decide)) z)
  refine jr_aload rfl rfl ?_
  refine jr_iload rfl rfl ?_
  refine jr_cv1 (mc' := 0) (ms' := 0) rfl jm_For_weigh_n jm_For_weigh_f rfl rfl rfl rfl rfl rfl rfl (Nat.zero_le _) (Nat.zero_le _) ?_
  refine ev_weigh (dp := dp) (p := p) (hm := jw_h hm a) (b := b) (jz_Wa hB hA) hmo hR hT hp (by omega) hC.1 (fun S1 v1 f1 g1 g2 g3 => ?_)
  refine jr_ist3 rfl rfl ?_
  refine jr_ic rfl ?_
  refine jr_ist4 rfl rfl ?_
  refine lp_look0 0 σ hB hmo hR hA hw0 hp hdn hn4 hwn hT (by omega) g3 (jq_C_e hC (f1 3 (by decide) (by decide) (by decide) (by decide) (by decide)) (f1 47 (by decide) (by decide) (by decide) (by decide) (by decide))) (fun _ _ => rfl) (fun j hj => (congrFun (f1 45 (by decide) (by decide) (by decide) (by decide) (by decide)) j).trans (hrow j hj)) g1 g2 k

set_option maxHeartbeats 800000 in
set_option maxRecDepth 100000 in
theorem ev_look1 {d : Nat} {h : jx_H} {Q : Option jx_V → jx_H → Prop} {hm : jx_H} {b r p dp n w kc : Nat} {a : jw_A} {s : Int32} {row : Nat → Int32} {T0 S0 : Nat → Nat → Int32} {σ : jq_S} {u : Nat} (IH : jq_CL h hm b r p n (u + 1))  (hB : jz_B hm b) (hmo : ¬ jC hm b 0 0 = 0) (hR : jy_R h r hm b) (hA : jz_A (jz_np hm b) (jz_nm hm b) a) (hw0 : a 0 = nI w) (hp : p < 5) (hdn : dp + (u + 1 + 1) = n) (hn4 : n ≤ 4) (hwn : w + (u + 1 + 1) ≤ 511) (hT : jy_T (jy_np h r) T0 a) (hC : jq_C S0 p n σ) (hrow : ∀ j, j < dp → S0 45 j = row j) (k : ∀ (v : Int32) (T' S' : Nat → Nat → Int32) (kc' : Nat), jy_T (jy_np h r) T' a → (∀ j, j < w → T' 31 j = T0 31 j) → (v = 0 ∧ (jq_go hm b p (u + 1 + 1) dp a s row σ) = none ∨ v = 1 ∧ ∃ σ', (jq_go hm b p (u + 1 + 1) dp a s row σ) = some σ' ∧ jq_C S' p n σ' ∧ (∀ j, j < dp → S' 45 j = row j) ∧ (∀ i, i < dp * 32 → S' 46 i = S0 46 i)) → Q (some (jv_i v)) (jP (jK h 4 T' (r + 1)) S' kc'))  : jx_Ev jm_For_lookOn (d + 2 * (u + 1 + 1) + 6) 0 0 false 0 [jv_r 3 0, jv_i (nI dp), jv_i s] (jP (jK h 4 T0 (r + 1)) S0 kc) Q := by
  show jx_W (jm_For_lookOn, d + 2 * (u + 1 + 1) + 6, 0, 0, false, 0, _) Q 0 0 0 [some (jv_r 3 0), some (jv_i (nI dp)), some (jv_i s), none, none] [] _
  refine jr_iload rfl rfl ?_
  refine jr_if_lt rfl (fun z => absurd z (nI_pos (by omega))) (fun _ => ?_)
  refine jr_iload rfl rfl ?_
  refine jr_ic rfl ?_
  refine jr_icmp_lt rfl (fun _ => ?_) (fun z => absurd (nI_lt (a := dp) (b := 4) (by omega) (by decide)) z)
  refine jr_aload rfl rfl ?_
  refine jr_iload rfl rfl ?_
  refine jr_cv1 (mc' := 0) (ms' := 0) rfl jm_For_weigh_n jm_For_weigh_f rfl rfl rfl rfl rfl rfl rfl (Nat.zero_le _) (Nat.zero_le _) ?_
  refine ev_weigh (dp := dp) (p := p) (hm := jw_h hm a) (b := b) (jz_Wa hB hA) hmo hR hT hp (by omega) hC.1 (fun S1 v1 f1 g1 g2 g3 => ?_)
  refine jr_ist3 rfl rfl ?_
  refine jr_ic rfl ?_
  refine jr_ist4 rfl rfl ?_
  refine lp_look1 IH 0 σ hB hmo hR hA hw0 hp hdn hn4 hwn hT (by omega) g3 (jq_C_e hC (f1 3 (by decide) (by decide) (by decide) (by decide) (by decide)) (f1 47 (by decide) (by decide) (by decide) (by decide) (by decide))) (fun _ _ => rfl) (fun j hj => (congrFun (f1 45 (by decide) (by decide) (by decide) (by decide) (by decide)) j).trans (hrow j hj)) g1 g2 k

theorem jq_look {h hm : jx_H} {b r p n : Nat} (hB : jz_B hm b) (hmo : ¬ jC hm b 0 0 = 0) (hR : jy_R h r hm b) (hp : p < 5) (hn4 : n ≤ 4) : ∀ u, jq_CL h hm b r p n (u + 1)
  | 0 => fun d dp w kc a s row T0 S0 σ Q hA hw0 hdn hwn hT hC hrow k => ev_look0 (d := d + 2) hB hmo hR hA hw0 hp hdn hn4 hwn hT hC hrow k
  | u + 1 => fun d dp w kc a s row T0 S0 σ Q hA hw0 hdn hwn hT hC hrow k => ev_look1 (jq_look hB hmo hR hp hn4 u) hB hmo hR hA hw0 hp hdn hn4 hwn hT hC hrow k
