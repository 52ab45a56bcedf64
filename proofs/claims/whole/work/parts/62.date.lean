/-- days before the j-th month -/
def jw_pf (f : Nat → Nat) : Nat → Nat
  | 0 => 0
  | j + 1 => jw_pf f j + f j
theorem jw_pf_mono {f : Nat → Nat} : ∀ {i j : Nat}, i ≤ j → jw_pf f i ≤ jw_pf f j
  | i, 0, h => by rw [show i = 0 by omega]; exact Nat.le_refl _
  | i, j + 1, h => by
    rcases Nat.eq_or_lt_of_le h with e | e
    · rw [e]; exact Nat.le_refl _
    · have := jw_pf_mono (f := f) (i := i) (j := j) (by omega)
      rw [jw_pf]; omega
theorem jw_pf_ex {f : Nat → Nat} {n : Nat} : ∀ {w : Nat}, n < jw_pf f w → ∃ i, i < w ∧ jw_pf f i ≤ n ∧ n < jw_pf f (i + 1)
  | 0, h => absurd h (by rw [jw_pf]; omega)
  | w + 1, h => by
    rcases Nat.lt_or_ge n (jw_pf f w) with e | e
    · obtain ⟨i, h1, h2⟩ := jw_pf_ex e
      exact ⟨i, by omega, h2⟩
    · exact ⟨w, by omega, e, h⟩
theorem jw_pf_le {f : Nat → Nat} : ∀ {w : Nat}, (∀ j, j < w → f j ≤ 31) → jw_pf f w ≤ 31 * w
  | 0, _ => Nat.le_refl _
  | w + 1, h => by
    have := jw_pf_le (f := f) (w := w) (fun j hj => h j (by omega))
    have := h w (by omega)
    rw [jw_pf]; omega
theorem jw_pf_sum {f : Nat → Nat} {g : Nat → Int32} : ∀ {w : Nat}, (∀ j, j < w → g j = nI (f j)) → jw_sum g w = nI (jw_pf f w)
  | 0, _ => rfl
  | w + 1, h => by rw [jw_sum, jw_pf, jw_pf_sum (fun j hj => h j (by omega)), h w (by omega), nI_add]
set_option maxHeartbeats 800000 in
set_option maxRecDepth 100000 in
theorem lp_holding {d n0 : Nat} {Q : Option jx_V → jx_H → Prop} {h : jx_H} {n w i : Nat} {f : Nat → Nat} (j : Nat) (hw : w ≤ 300) (hl : ∀ j, j < w → f j ≤ 31) (hf : ∀ j, j < w → jh_I h 31 0 j = nI (f j)) (hwe : jh_I h 1 0 2 = nI w) (hn : n < 2 ^ 31) (hj : j ≤ i) (hi : i < w) (h1 : jw_pf f i ≤ n) (h2 : n < jw_pf f (i + 1)) (hQ : Q (some (jv_i (nI i))) h)  : jx_W (jm_Cal_monthHolding, d, 0, 0, false, 0, n0) Q 0 0 4 [some (jv_r 1 0), some (jv_i (nI n)), some (jv_i (nI (jw_pf f j))), some (jv_i (nI j))] [] h := by
  have hb := jw_pf_le (f := f) (w := w) hl
  have hm1 := jw_pf_mono (f := f) (show j + 1 ≤ w by omega)
  refine jr_iload rfl rfl ?_
  refine jr_aload rfl rfl ?_
  refine jr_getI rfl rfl ?_
  rw [hwe]
  refine jr_icmp_ge rfl (fun z => absurd z (nI_ge (by omega) (by omega))) (fun _ => ?_)
  refine jr_iload rfl rfl ?_
  refine jr_aload rfl rfl ?_
  refine jr_getR rfl rfl rfl rfl (Or.inl rfl) ?_
  refine jr_alen (so := 1) (len := 512) rfl rfl rfl rfl ?_
  refine jr_icmp_ge rfl (fun z => absurd z (nI_ge (a := j) (b := 512) (by omega) (by decide))) (fun _ => ?_)
  refine jr_iload rfl rfl ?_
  refine jr_aload rfl rfl ?_
  refine jr_getR rfl rfl rfl rfl (Or.inl rfl) ?_
  refine jr_iload rfl rfl ?_
  refine jr_iald (len := 512) rfl rfl rfl (by omega) ?_
  rw [hf j (by omega)]
  refine jr_iadd rfl ?_
  rw [nI_add, show jw_pf f j + f j = jw_pf f (j + 1) from rfl]
  refine jr_ist2 rfl rfl ?_
  refine jr_iload rfl rfl ?_
  refine jr_if_lt rfl (fun z => absurd z (nI_pos hn)) (fun _ => ?_)
  refine jr_iload rfl rfl ?_
  refine jr_iload rfl rfl ?_
  refine jr_icmp_ge rfl (fun c24 => ?_) (fun c24 => ?_)
  · refine jr_iinc3 rfl rfl ?_
    refine jr_goto rfl ?_
    rw [jn_S]
    have c24' := jn_le (show nI (jw_pf f (j + 1)) ≤ nI n from c24) (by omega) hn
    have hji : j < i := by
      rcases Nat.eq_or_lt_of_le hj with e | e
      · rw [e] at c24'; omega
      · exact e
    exact lp_holding (j + 1) hw hl hf hwe hn (by omega) hi h1 h2 hQ
  · refine jr_iload rfl rfl ?_
    refine jr_iret rfl rfl (Nat.zero_le _) (Nat.zero_le _) ?_
    have c24' := jn_nle (show ¬ nI (jw_pf f (j + 1)) ≤ nI n from c24) (by omega) hn
    have hji : j = i := by
      rcases Nat.eq_or_lt_of_le hj with e | e
      · exact e
      · have := jw_pf_mono (f := f) (show j + 1 ≤ i by omega); omega
    subst hji
    exact hQ
termination_by i + 1 - j
decreasing_by all_goals omega

set_option maxHeartbeats 800000 in
set_option maxRecDepth 100000 in
theorem lp_holding0 {d n0 : Nat} {Q : Option jx_V → jx_H → Prop} {h : jx_H} {x : Int32} {w : Nat} {f : Nat → Nat} (j : Nat) (hw : w ≤ 300) (hl : ∀ j, j < w → f j ≤ 31) (hf : ∀ j, j < w → jh_I h 31 0 j = nI (f j)) (hwe : jh_I h 1 0 2 = nI w) (hx : ¬ (0 ≤ x.toInt ∧ x.toInt < jw_pf f w)) (hj : j ≤ w) (hQ : Q (some (jv_i (-1))) h)  : jx_W (jm_Cal_monthHolding, d, 0, 0, false, 0, n0) Q 0 0 4 [some (jv_r 1 0), some (jv_i x), some (jv_i (nI (jw_pf f j))), some (jv_i (nI j))] [] h := by
  have hb := jw_pf_le (f := f) (w := w) hl
  refine jr_iload rfl rfl ?_
  refine jr_aload rfl rfl ?_
  refine jr_getI rfl rfl ?_
  rw [hwe]
  refine jr_icmp_ge rfl (fun c7 => ?_) (fun c7 => ?_)
  · refine jr_ic rfl ?_
    refine jr_iret rfl rfl (Nat.zero_le _) (Nat.zero_le _) ?_
    exact hQ
  · have hj1 : j < w := jn_nle (show ¬ nI w ≤ nI j from c7) (by omega) (by omega)
    have hm1 := jw_pf_mono (f := f) (show j + 1 ≤ w by omega)
    refine jr_iload rfl rfl ?_
    refine jr_aload rfl rfl ?_
    refine jr_getR rfl rfl rfl rfl (Or.inl rfl) ?_
    refine jr_alen (so := 1) (len := 512) rfl rfl rfl rfl ?_
    refine jr_icmp_ge rfl (fun z => absurd z (nI_ge (a := j) (b := 512) (by omega) (by decide))) (fun _ => ?_)
    refine jr_iload rfl rfl ?_
    refine jr_aload rfl rfl ?_
    refine jr_getR rfl rfl rfl rfl (Or.inl rfl) ?_
    refine jr_iload rfl rfl ?_
    refine jr_iald (len := 512) rfl rfl rfl (by omega) ?_
    rw [hf j (by omega)]
    refine jr_iadd rfl ?_
    rw [nI_add, show jw_pf f j + f j = jw_pf f (j + 1) from rfl]
    refine jr_ist2 rfl rfl ?_
    refine jr_iload rfl rfl ?_
    refine jr_if_lt rfl (fun c21 => ?_) (fun c21 => ?_)
    · refine jr_iinc3 rfl rfl ?_
      refine jr_goto rfl ?_
      rw [jn_S]
      exact lp_holding0 (j + 1) hw hl hf hwe hx hj1 hQ
    · refine jr_iload rfl rfl ?_
      refine jr_iload rfl rfl ?_
      refine jr_icmp_ge rfl (fun c24 => ?_) (fun c24 => ?_)
      · refine jr_iinc3 rfl rfl ?_
        refine jr_goto rfl ?_
        rw [jn_S]
        exact lp_holding0 (j + 1) hw hl hf hwe hx hj1 hQ
      · refine jr_iload rfl rfl ?_
        refine jr_iret rfl rfl (Nat.zero_le _) (Nat.zero_le _) ?_
        exfalso
        simp (disch := omega) only [Int32.lt_iff_toInt_lt, Int32.le_iff_toInt_le, ← Int32.toInt_inj, Int32.reduceToInt, nI_toInt] at c21 c24
        omega
termination_by w - j
decreasing_by all_goals omega

set_option maxHeartbeats 800000 in
set_option maxRecDepth 100000 in
theorem lp_MD_date {d n0 : Nat} {Q : Option jx_V → jx_H → Prop} {h : jx_H} {n w i : Nat} {u z : Int32} {f : Nat → Nat} (j : Nat) (hw : w ≤ 300) (hl : ∀ j, j < w → f j ≤ 31) (hf : ∀ j, j < w → jA h (37 + j) = nI (f j)) (hn : n < 2 ^ 31) (hj : j ≤ i) (hi : i < w) (h1 : jw_pf f i ≤ n) (h2 : n < jw_pf f (i + 1)) (kk : jx_W (jm_MD_date, d, 0, 0, false, 1, n0) Q 0 0 40 [some (jv_r 11 0), some (jv_i u), some (jv_i z), some (jv_i (nI i)), some (jv_i (nI (n - jw_pf f i)))] [] h)  : jx_W (jm_MD_date, d, 0, 0, false, 1, n0) Q 0 0 21 [some (jv_r 11 0), some (jv_i u), some (jv_i z), some (jv_i (nI j)), some (jv_i (nI (n - jw_pf f j)))] [] h := by
  have hb := jw_pf_le (f := f) (w := w) hl
  have hm1 := jw_pf_mono (f := f) (show j + 1 ≤ w by omega)
  have hs : jw_pf f (j + 1) = jw_pf f j + f j := rfl
  refine jr_iload rfl rfl ?_
  refine jr_aload rfl rfl ?_
  refine jr_getR rfl rfl rfl rfl (Or.inl rfl) ?_
  refine jr_ic rfl ?_
  refine jr_iload rfl rfl ?_
  refine jr_iadd rfl ?_
  refine jr_iald (len := 337) rfl rfl (jn_add (show _ = nI 37 from rfl) rfl) (by omega) ?_
  rw [show jh_I h 98 0 (37 + j) = nI (f j) from hf j (by omega)]
  refine jr_icmp_lt rfl (fun c28 => ?_) (fun c28 => ?_)
  · have c28' := jn_lt (show nI (n - jw_pf f j) < nI (f j) from c28) (by omega) (by have := hl j (by omega); omega)
    have hji : j = i := by
      rcases Nat.eq_or_lt_of_le hj with e | e
      · exact e
      · have := jw_pf_mono (f := f) (show j + 1 ≤ i by omega)
        have := jw_pf_mono (f := f) (show j ≤ i by omega)
        omega
    subst hji
    exact kk
  · refine jr_iload rfl rfl ?_
    refine jr_aload rfl rfl ?_
    refine jr_getR rfl rfl rfl rfl (Or.inl rfl) ?_
    refine jr_ic rfl ?_
    refine jr_iload rfl rfl ?_
    refine jr_iadd rfl ?_
    refine jr_iald (len := 337) rfl rfl (jn_add (show _ = nI 37 from rfl) rfl) (by omega) ?_
    rw [show jh_I h 98 0 (37 + j) = nI (f j) from hf j (by omega)]
    refine jr_isub rfl ?_
    have c28' := jn_nlt (show ¬ nI (n - jw_pf f j) < nI (f j) from c28) (by omega) (by have := hl j (by omega); omega)
    rw [pk_sub c28', show n - jw_pf f j - f j = n - jw_pf f (j + 1) by omega]
    refine jr_ist4 rfl rfl ?_
    refine jr_iinc3 rfl rfl ?_
    refine jr_goto rfl ?_
    rw [jn_S]
    have hji : j < i := by
      rcases Nat.eq_or_lt_of_le hj with e | e
      · subst e; omega
      · exact e
    exact lp_MD_date (j + 1) hw hl hf hn (by omega) hi h1 h2 kk
termination_by i + 1 - j
decreasing_by all_goals omega

set_option maxHeartbeats 800000 in
set_option maxRecDepth 100000 in
theorem ev_floorModN {d : Nat} {h : jx_H} {Q : Option jx_V → jx_H → Prop} {X L : Nat} (hX : X < 2 ^ 31) (hL : 1 ≤ L) (hL2 : L < 2 ^ 31) (hQ : Q (some (jv_i (nI (X % L)))) h) : jx_Ev jm_Math_floorMod (d) 0 0 false 0 [jv_i (nI X), jv_i (nI L)] h Q := by
  show jx_W (jm_Math_floorMod, d, 0, 0, false, 0, _) Q 0 0 0 [some (jv_i (nI X)), some (jv_i (nI L)), none] [] _
  refine jr_iload rfl rfl ?_
  refine jr_iload rfl rfl ?_
  refine jr_irem rfl (nI_ne0 hL hL2) ?_
  rw [jw_rem_s, jn_rem hX hL2 hL]
  refine jr_ist2 rfl rfl ?_
  refine jr_iload rfl rfl ?_
  refine jr_iload rfl rfl ?_
  refine jr_ixor rfl ?_
  refine jr_if_ge rfl (fun _ => ?_) (fun z => absurd (Int32.not_lt.mp (fun z => nI_pos hX ((jn_xneg hL2).mp z))) z)
  refine jr_iload rfl rfl ?_
  refine jr_iret rfl rfl (Nat.zero_le _) (Nat.zero_le _) ?_
  exact hQ

theorem ev_hold {d : Nat} {h : jx_H} {Q : Option jx_V → jx_H → Prop} {n w i : Nat} {f : Nat → Nat} (hw : w ≤ 300) (hl : ∀ j, j < w → f j ≤ 31) (hf : ∀ j, j < w → jh_I h 31 0 j = nI (f j)) (hwe : jh_I h 1 0 2 = nI w) (hn : n < 2 ^ 31) (hi : i < w) (h1 : jw_pf f i ≤ n) (h2 : n < jw_pf f (i + 1)) (hQ : Q (some (jv_i (nI i))) h) : jx_Ev jm_Cal_monthHolding d 0 0 false 0 [jv_r 1 0, jv_i (nI n)] h Q := by
  show jx_W (jm_Cal_monthHolding, d, 0, 0, false, 0, _) Q 0 0 0 [some (jv_r 1 0), some (jv_i (nI n)), none, none] [] _
  refine jr_ic rfl ?_
  refine jr_ist2 rfl rfl ?_
  refine jr_ic rfl ?_
  refine jr_ist3 rfl rfl ?_
  exact lp_holding 0 hw hl hf hwe hn (Nat.zero_le _) hi h1 h2 hQ
theorem ev_hold0 {d : Nat} {h : jx_H} {Q : Option jx_V → jx_H → Prop} {x : Int32} {w : Nat} {f : Nat → Nat} (hw : w ≤ 300) (hl : ∀ j, j < w → f j ≤ 31) (hf : ∀ j, j < w → jh_I h 31 0 j = nI (f j)) (hwe : jh_I h 1 0 2 = nI w) (hx : ¬ (0 ≤ x.toInt ∧ x.toInt < jw_pf f w)) (hQ : Q (some (jv_i (-1))) h) : jx_Ev jm_Cal_monthHolding d 0 0 false 0 [jv_r 1 0, jv_i x] h Q := by
  show jx_W (jm_Cal_monthHolding, d, 0, 0, false, 0, _) Q 0 0 0 [some (jv_r 1 0), some (jv_i x), none, none] [] _
  refine jr_ic rfl ?_
  refine jr_ist2 rfl rfl ?_
  refine jr_ic rfl ?_
  refine jr_ist3 rfl rfl ?_
  exact lp_holding0 0 hw hl hf hwe hx (Nat.zero_le _) hQ
set_option maxHeartbeats 800000 in
set_option maxRecDepth 100000 in
theorem pd_date_0 {d : Nat} {hc hm : jx_H} {x : Int32} (hRel : jz_Rel hc hm) : jx_Ev jm_JV_date (d + 40) 0 0 false 0 [jv_r 10 0, jv_i x, jv_i 0] hc (fun r hc' => jx_Ev jm_MD_date (d + 40) 0 0 false 1 [jv_r 11 0, jv_i x, jv_i 0] hm (fun r' hm' => r = r' ∧ jz_Rel hc' hm')) := by
  have hRel0 := hRel
  obtain ⟨b, r, ⟨hw, hG, hr2, hto, hsp, hR, hA, hL⟩, hTa, hFa, hLy, hTi, hLe, hBo, hAc, hWo⟩ := hRel
  have hb2 := hw.2.1
  have hnm := hw.2.2.1.1
  have hnm5 := hnm.2
  have km1 : (jh_I hc 7 r 0).toInt = (jz_nm hm b : Int) := by rw [hR.1]; exact (congrArg Int32.toInt hnm.1).trans (nI_toInt (by omega))
  have km2 : (jh_I hm 66 0 b).toInt = (jz_nm hm b : Int) := (congrArg Int32.toInt hnm.1).trans (nI_toInt (by omega))
  have km3 : (jh_I hm 66 0 b - 1).toInt = (jz_nm hm b : Int) - 1 := by rw [Int32.toInt_sub, km2, show (1 : Int32).toInt = 1 from rfl]; exact jn_sm (by omega) (by omega)
  obtain ⟨-, w, g1, g2, g3, g4⟩ := id hG
  have hl0 : ∀ j, j < w → (jA hm (37 + j)).toNatClampNeg ≤ 31 ∧ jA hm (37 + j) = nI (jA hm (37 + j)).toNatClampNeg := fun j hj => by
    obtain ⟨l, e1, e2⟩ := g4 j hj
    rw [e1, nI_clamp (by omega)]; exact ⟨e2, rfl⟩
  have hl : ∀ j, j < w → (fun j => (jA hm (37 + j)).toNatClampNeg) j ≤ 31 := fun j hj => (hl0 j hj).1
  have hf : ∀ j, j < w → jA hm (37 + j) = nI ((fun j => (jA hm (37 + j)).toNatClampNeg) j) := fun j hj => (hl0 j hj).2
  have hL2 : ∀ j, j < w → jh_I hc 31 0 j = nI ((fun j => (jA hm (37 + j)).toNatClampNeg) j) := fun j hj => (hL j (by rw [jn_1 g1 (by omega)]; exact hj)).trans (hf j hj)
  have hb := jw_pf_le (f := (fun j => (jA hm (37 + j)).toNatClampNeg)) (w := w) hl
  have hdays : jh_I hm 98 0 1 = nI (jw_pf (fun j => (jA hm (37 + j)).toNatClampNeg) w) := (show jA hm 1 = _ from g3).trans (jw_pf_sum hf)
  have q3 := jz_gm hdays (by omega)
  obtain ⟨wk, hk1, hk2, hk3⟩ := hw.2.2.1.2.2.2.2.2.2.2.1
  have ek1 : jh_I hc 7 r 10 = nI wk := hR.2.2.2.2.2.2.2.2.2.1.trans hk1
  have ek2 : jh_I hm 81 0 b = nI wk := hk1
  have eb1 : jh_I hc 7 r 11 = jh_I hm 88 0 b := hR.2.2.2.2.2.2.2.2.2.2.1
  have em1 : jh_I hc 7 r 0 = jh_I hm 66 0 b := hR.1
  rcases nI_dec x (jw_pf (fun j => (jA hm (37 + j)).toNatClampNeg) w) (by omega) with ⟨n, rfl, hn, hn2⟩ | hn
  · obtain ⟨i, hi, h1, h2⟩ := jw_pf_ex hn
    have hmo : ¬ jC hm b 0 0 = 0 := fun z => by
      have hz : jz_nm hm b = 0 := by have : (jh_I hm 66 0 b).toInt = 0 := congrArg Int32.toInt z; omega
      obtain ⟨w', t, t1, -, -, -, t5⟩ := hw.2.2.2.1
      have := jn_eq (t1.symm.trans g1) (by omega) (by omega)
      have := t5 hz
      omega
    have hm0 : ¬ jh_I hm 66 0 b = 0 := hmo
    have hmc : ¬ jh_I hc 7 r 0 = 0 := by rw [em1]; exact hm0
    show jx_W (jm_JV_date, d + 40, 0, 0, false, 0, _) _ 0 0 0 [some (jv_r 10 0), some (jv_i (nI n)), some (jv_i 0), none, none] [] _
    refine jr_aload rfl rfl ?_
    refine jr_getR rfl rfl rfl rfl (Or.inl rfl) ?_
    refine jr_iload rfl rfl ?_
    refine jr_cv1 (mc' := 0) (ms' := 0) rfl jm_Cal_monthHolding_n jm_Cal_monthHolding_f rfl rfl rfl rfl rfl rfl rfl (Nat.zero_le _) (Nat.zero_le _) ?_
    refine ev_hold g2 hl hL2 (hA.2.1.trans g1) (by omega) hi h1 h2 ?_
    refine jr_ist3 rfl rfl ?_
    refine jr_iload rfl rfl ?_
    refine jr_ic rfl ?_
    refine jr_icmp_eq rfl (fun z => absurd z (show ¬ nI i = -1 from fun z => nI_pos (show i < 2 ^ 31 by omega) (by rw [z]; decide))) (fun _ => ?_)
    refine jr_aload rfl rfl ?_
    refine jr_getM rfl rfl rfl rfl hto ?_
    refine jr_getI rfl rfl ?_
    refine jr_if_ne rfl (fun _ => ?_) (fun z => absurd z hmc)
    refine jr_iload rfl rfl ?_
    refine jr_aload rfl rfl ?_
    refine jr_getR rfl rfl rfl rfl (Or.inl rfl) ?_
    refine jr_iload rfl rfl ?_
    refine jr_cv1 (mc' := 0) (ms' := 0) rfl jm_Cal_firstDay_n jm_Cal_firstDay_f rfl rfl rfl rfl rfl rfl rfl (Nat.zero_le _) (Nat.zero_le _) ?_
    refine ev_firstDay (f := fun j => nI ((fun j => (jA hm (37 + j)).toNatClampNeg) j)) (by omega) (fun j hj => hL2 j (by omega)) ?_
    rw [jw_pf_sum (f := (fun j => (jA hm (37 + j)).toNatClampNeg)) (fun _ _ => rfl)]
    refine jr_isub rfl ?_
    rw [pk_sub h1]
    refine jr_ist4 rfl rfl ?_
    refine jr_iload rfl rfl ?_
    refine jr_tsw rfl ?_
    refine ⟨fun _ => ?_, fun z => absurd (by decide) z⟩
    refine jr_iload rfl rfl ?_
    refine jr_aload rfl rfl ?_
    refine jr_getM rfl rfl rfl rfl hto ?_
    refine jr_getI rfl rfl ?_
    rw [em1]
    refine jr_idiv rfl hm0 ?_
    refine jr_iret rfl rfl (Nat.zero_le _) (Nat.zero_le _) ?_
    show jx_W (jm_MD_date, d + 40, 0, 0, false, 1, _) _ 0 0 0 [some _, some _, some _, none, none] [] _
    refine jr_iload rfl rfl ?_
    refine jr_ic rfl ?_
    refine jr_aload rfl rfl ?_
    refine jr_getR rfl rfl rfl rfl (Or.inl rfl) ?_
    refine jr_ic rfl ?_
    refine jr_iald (len := 337) rfl rfl (show _ = nI 1 from rfl) (by decide) ?_
    refine jr_ic rfl ?_
    refine jr_isub rfl ?_
    refine jr_cs3 (mc' := 0) (ms' := 0) rfl jm_MD_isIn_n jm_MD_isIn_f rfl rfl rfl rfl rfl (Nat.zero_le _) (Nat.zero_le _) ?_
    show jx_W (jm_MD_isIn, _, _, _, _, _, _) _ 0 0 0 [some _, some _, some _] [] _
    refine jr_iload rfl rfl ?_
    refine jr_iload rfl rfl ?_
    refine jr_icmp_lt rfl (fun m2MDisIn => ?_) (fun m2MDisIn => ?_)
    · refine jr_ic rfl ?_
      refine jr_zret rfl rfl rfl (Nat.zero_le _) (Nat.zero_le _) ?_
      refine jr_if_eq rfl (fun _ => ?_) (fun z => absurd (by decide) z)
      refine jr_ic rfl ?_
      refine jr_iret rfl rfl (Nat.zero_le _) (Nat.zero_le _) ?_
      first
        | exact ⟨rfl, hRel0⟩
        | (exfalso; omega)
        | (exfalso; simp (disch := omega) only [Int32.lt_iff_toInt_lt, Int32.le_iff_toInt_le, ← Int32.toInt_inj, Int32.reduceToInt, nI_toInt] at m2MDisIn; done)
        | (exfalso; simp (disch := omega) only [Int32.lt_iff_toInt_lt, Int32.le_iff_toInt_le, ← Int32.toInt_inj, Int32.reduceToInt, nI_toInt] at m2MDisIn; omega)
    · refine jr_iload rfl rfl ?_
      refine jr_iload rfl rfl ?_
      refine jr_icmp_gt rfl (fun m5MDisIn => ?_) (fun m5MDisIn => ?_)
      · refine jr_ic rfl ?_
        refine jr_zret rfl rfl rfl (Nat.zero_le _) (Nat.zero_le _) ?_
        refine jr_if_eq rfl (fun _ => ?_) (fun z => absurd (by decide) z)
        refine jr_ic rfl ?_
        refine jr_iret rfl rfl (Nat.zero_le _) (Nat.zero_le _) ?_
        first
          | exact ⟨rfl, hRel0⟩
          | (exfalso; omega)
          | (exfalso; simp (disch := omega) only [Int32.lt_iff_toInt_lt, Int32.le_iff_toInt_le, ← Int32.toInt_inj, Int32.reduceToInt, nI_toInt] at m2MDisIn m5MDisIn; done)
          | (exfalso; simp (disch := omega) only [Int32.lt_iff_toInt_lt, Int32.le_iff_toInt_le, ← Int32.toInt_inj, Int32.reduceToInt, nI_toInt] at m2MDisIn m5MDisIn; omega)
      · refine jr_ic rfl ?_
        refine jr_goto rfl ?_
        refine jr_zret rfl rfl rfl (Nat.zero_le _) (Nat.zero_le _) ?_
        refine jr_if_eq rfl (fun z => absurd z (by decide)) (fun _ => ?_)
        refine jr_iload rfl rfl ?_
        refine jr_ic rfl ?_
        refine jr_ic rfl ?_
        refine jr_cs3 (mc' := 0) (ms' := 0) rfl jm_MD_isIn_n jm_MD_isIn_f rfl rfl rfl rfl rfl (Nat.zero_le _) (Nat.zero_le _) ?_
        show jx_W (jm_MD_isIn, _, _, _, _, _, _) _ 0 0 0 [some _, some _, some _] [] _
        refine jr_iload rfl rfl ?_
        refine jr_iload rfl rfl ?_
        refine jr_icmp_lt rfl (fun z => absurd z (by decide)) (fun _ => ?_)
        refine jr_iload rfl rfl ?_
        refine jr_iload rfl rfl ?_
        refine jr_icmp_gt rfl (fun z => absurd z (by decide)) (fun _ => ?_)
        refine jr_ic rfl ?_
        refine jr_goto rfl ?_
        refine jr_zret rfl rfl rfl (Nat.zero_le _) (Nat.zero_le _) ?_
        refine jr_if_ne rfl (fun _ => ?_) (fun z => absurd z (by decide))
        refine jr_ic rfl ?_
        refine jr_ist3 rfl rfl ?_
        refine jr_iload rfl rfl ?_
        refine jr_ist4 rfl rfl ?_
        refine lp_MD_date (n := n) (w := w) (i := i) (z := 0) (f := (fun j => (jA hm (37 + j)).toNatClampNeg)) 0 g2 hl hf (by omega) (Nat.zero_le _) hi h1 h2 ?_
        refine jr_iload rfl rfl ?_
        refine jr_ic rfl ?_
        refine jr_icmp_ne rfl (fun _ => ?_) (fun z => absurd z (by decide))
        refine jr_iload rfl rfl ?_
        refine jr_if_ne rfl (fun z => absurd (by decide) z) (fun _ => ?_)
        refine jr_iload rfl rfl ?_
        refine jr_aload rfl rfl ?_
        refine jr_getR rfl rfl rfl rfl (Or.inl rfl) ?_
        refine jr_aload rfl rfl ?_
        refine jr_getI rfl rfl ?_
        refine jr_iald (len := 2) rfl rfl hw.1 (by omega) ?_
        refine jr_idiv rfl hm0 ?_
        refine jr_goto rfl ?_
        refine jr_iret rfl rfl (Nat.zero_le _) (Nat.zero_le _) ?_
        exact ⟨rfl, hRel0⟩
  · show jx_W (jm_JV_date, d + 40, 0, 0, false, 0, _) _ 0 0 0 [some (jv_r 10 0), some (jv_i x), some (jv_i 0), none, none] [] _
    refine jr_aload rfl rfl ?_
    refine jr_getR rfl rfl rfl rfl (Or.inl rfl) ?_
    refine jr_iload rfl rfl ?_
    refine jr_cv1 (mc' := 0) (ms' := 0) rfl jm_Cal_monthHolding_n jm_Cal_monthHolding_f rfl rfl rfl rfl rfl rfl rfl (Nat.zero_le _) (Nat.zero_le _) ?_
    refine ev_hold0 g2 hl hL2 (hA.2.1.trans g1) hn ?_
    refine jr_ist3 rfl rfl ?_
    refine jr_iload rfl rfl ?_
    refine jr_ic rfl ?_
    refine jr_icmp_eq rfl (fun _ => ?_) (fun z => absurd (by decide) z)
    refine jr_ic rfl ?_
    refine jr_iret rfl rfl (Nat.zero_le _) (Nat.zero_le _) ?_
    show jx_W (jm_MD_date, d + 40, 0, 0, false, 1, _) _ 0 0 0 [some _, some _, some _, none, none] [] _
    refine jr_iload rfl rfl ?_
    refine jr_ic rfl ?_
    refine jr_aload rfl rfl ?_
    refine jr_getR rfl rfl rfl rfl (Or.inl rfl) ?_
    refine jr_ic rfl ?_
    refine jr_iald (len := 337) rfl rfl (show _ = nI 1 from rfl) (by decide) ?_
    refine jr_ic rfl ?_
    refine jr_isub rfl ?_
    refine jr_cs3 (mc' := 0) (ms' := 0) rfl jm_MD_isIn_n jm_MD_isIn_f rfl rfl rfl rfl rfl (Nat.zero_le _) (Nat.zero_le _) ?_
    show jx_W (jm_MD_isIn, _, _, _, _, _, _) _ 0 0 0 [some _, some _, some _] [] _
    refine jr_iload rfl rfl ?_
    refine jr_iload rfl rfl ?_
    refine jr_icmp_lt rfl (fun m2MDisIn => ?_) (fun m2MDisIn => ?_)
    · refine jr_ic rfl ?_
      refine jr_zret rfl rfl rfl (Nat.zero_le _) (Nat.zero_le _) ?_
      refine jr_if_eq rfl (fun _ => ?_) (fun z => absurd (by decide) z)
      refine jr_ic rfl ?_
      refine jr_iret rfl rfl (Nat.zero_le _) (Nat.zero_le _) ?_
      first
        | exact ⟨rfl, hRel0⟩
        | (exfalso; omega)
        | (exfalso; simp (disch := omega) only [Int32.lt_iff_toInt_lt, Int32.le_iff_toInt_le, ← Int32.toInt_inj, Int32.reduceToInt, nI_toInt] at m2MDisIn; done)
        | (exfalso; simp (disch := omega) only [Int32.lt_iff_toInt_lt, Int32.le_iff_toInt_le, ← Int32.toInt_inj, Int32.reduceToInt, nI_toInt] at m2MDisIn; omega)
    · refine jr_iload rfl rfl ?_
      refine jr_iload rfl rfl ?_
      refine jr_icmp_gt rfl (fun m5MDisIn => ?_) (fun m5MDisIn => ?_)
      · refine jr_ic rfl ?_
        refine jr_zret rfl rfl rfl (Nat.zero_le _) (Nat.zero_le _) ?_
        refine jr_if_eq rfl (fun _ => ?_) (fun z => absurd (by decide) z)
        refine jr_ic rfl ?_
        refine jr_iret rfl rfl (Nat.zero_le _) (Nat.zero_le _) ?_
        first
          | exact ⟨rfl, hRel0⟩
          | (exfalso; omega)
          | (exfalso; simp (disch := omega) only [Int32.lt_iff_toInt_lt, Int32.le_iff_toInt_le, ← Int32.toInt_inj, Int32.reduceToInt, nI_toInt] at m2MDisIn m5MDisIn; done)
          | (exfalso; simp (disch := omega) only [Int32.lt_iff_toInt_lt, Int32.le_iff_toInt_le, ← Int32.toInt_inj, Int32.reduceToInt, nI_toInt] at m2MDisIn m5MDisIn; omega)
      · refine jr_ic rfl ?_
        refine jr_goto rfl ?_
        refine jr_zret rfl rfl rfl (Nat.zero_le _) (Nat.zero_le _) ?_
        refine jr_if_eq rfl (fun z => absurd z (by decide)) (fun _ => ?_)
        refine jr_iload rfl rfl ?_
        refine jr_ic rfl ?_
        refine jr_ic rfl ?_
        refine jr_cs3 (mc' := 0) (ms' := 0) rfl jm_MD_isIn_n jm_MD_isIn_f rfl rfl rfl rfl rfl (Nat.zero_le _) (Nat.zero_le _) ?_
        show jx_W (jm_MD_isIn, _, _, _, _, _, _) _ 0 0 0 [some _, some _, some _] [] _
        refine jr_iload rfl rfl ?_
        refine jr_iload rfl rfl ?_
        refine jr_icmp_lt rfl (fun z => absurd z (by decide)) (fun _ => ?_)
        refine jr_iload rfl rfl ?_
        refine jr_iload rfl rfl ?_
        refine jr_icmp_gt rfl (fun z => absurd z (by decide)) (fun _ => ?_)
        refine jr_ic rfl ?_
        refine jr_goto rfl ?_
        refine jr_zret rfl rfl rfl (Nat.zero_le _) (Nat.zero_le _) ?_
        refine jr_if_ne rfl (fun _ => ?_) (fun z => absurd z (by decide))
        refine jr_ic rfl ?_
        refine jr_ist3 rfl rfl ?_
        refine jr_iload rfl rfl ?_
        refine jr_ist4 rfl rfl ?_
        first
          | (exfalso; omega)
          | (exfalso; simp (disch := omega) only [Int32.lt_iff_toInt_lt, Int32.le_iff_toInt_le, ← Int32.toInt_inj, Int32.reduceToInt, nI_toInt] at m2MDisIn m5MDisIn; done)
          | (exfalso; simp (disch := omega) only [Int32.lt_iff_toInt_lt, Int32.le_iff_toInt_le, ← Int32.toInt_inj, Int32.reduceToInt, nI_toInt] at m2MDisIn m5MDisIn; omega)

set_option maxHeartbeats 800000 in
set_option maxRecDepth 100000 in
theorem pd_date_1 {d : Nat} {hc hm : jx_H} {x : Int32} (hRel : jz_Rel hc hm) : jx_Ev jm_JV_date (d + 40) 0 0 false 0 [jv_r 10 0, jv_i x, jv_i 1] hc (fun r hc' => jx_Ev jm_MD_date (d + 40) 0 0 false 1 [jv_r 11 0, jv_i x, jv_i 1] hm (fun r' hm' => r = r' ∧ jz_Rel hc' hm')) := by
  have hRel0 := hRel
  obtain ⟨b, r, ⟨hw, hG, hr2, hto, hsp, hR, hA, hL⟩, hTa, hFa, hLy, hTi, hLe, hBo, hAc, hWo⟩ := hRel
  have hb2 := hw.2.1
  have hnm := hw.2.2.1.1
  have hnm5 := hnm.2
  have km1 : (jh_I hc 7 r 0).toInt = (jz_nm hm b : Int) := by rw [hR.1]; exact (congrArg Int32.toInt hnm.1).trans (nI_toInt (by omega))
  have km2 : (jh_I hm 66 0 b).toInt = (jz_nm hm b : Int) := (congrArg Int32.toInt hnm.1).trans (nI_toInt (by omega))
  have km3 : (jh_I hm 66 0 b - 1).toInt = (jz_nm hm b : Int) - 1 := by rw [Int32.toInt_sub, km2, show (1 : Int32).toInt = 1 from rfl]; exact jn_sm (by omega) (by omega)
  obtain ⟨-, w, g1, g2, g3, g4⟩ := id hG
  have hl0 : ∀ j, j < w → (jA hm (37 + j)).toNatClampNeg ≤ 31 ∧ jA hm (37 + j) = nI (jA hm (37 + j)).toNatClampNeg := fun j hj => by
    obtain ⟨l, e1, e2⟩ := g4 j hj
    rw [e1, nI_clamp (by omega)]; exact ⟨e2, rfl⟩
  have hl : ∀ j, j < w → (fun j => (jA hm (37 + j)).toNatClampNeg) j ≤ 31 := fun j hj => (hl0 j hj).1
  have hf : ∀ j, j < w → jA hm (37 + j) = nI ((fun j => (jA hm (37 + j)).toNatClampNeg) j) := fun j hj => (hl0 j hj).2
  have hL2 : ∀ j, j < w → jh_I hc 31 0 j = nI ((fun j => (jA hm (37 + j)).toNatClampNeg) j) := fun j hj => (hL j (by rw [jn_1 g1 (by omega)]; exact hj)).trans (hf j hj)
  have hb := jw_pf_le (f := (fun j => (jA hm (37 + j)).toNatClampNeg)) (w := w) hl
  have hdays : jh_I hm 98 0 1 = nI (jw_pf (fun j => (jA hm (37 + j)).toNatClampNeg) w) := (show jA hm 1 = _ from g3).trans (jw_pf_sum hf)
  have q3 := jz_gm hdays (by omega)
  obtain ⟨wk, hk1, hk2, hk3⟩ := hw.2.2.1.2.2.2.2.2.2.2.1
  have ek1 : jh_I hc 7 r 10 = nI wk := hR.2.2.2.2.2.2.2.2.2.1.trans hk1
  have ek2 : jh_I hm 81 0 b = nI wk := hk1
  have eb1 : jh_I hc 7 r 11 = jh_I hm 88 0 b := hR.2.2.2.2.2.2.2.2.2.2.1
  have em1 : jh_I hc 7 r 0 = jh_I hm 66 0 b := hR.1
  rcases nI_dec x (jw_pf (fun j => (jA hm (37 + j)).toNatClampNeg) w) (by omega) with ⟨n, rfl, hn, hn2⟩ | hn
  · obtain ⟨i, hi, h1, h2⟩ := jw_pf_ex hn
    have hmo : ¬ jC hm b 0 0 = 0 := fun z => by
      have hz : jz_nm hm b = 0 := by have : (jh_I hm 66 0 b).toInt = 0 := congrArg Int32.toInt z; omega
      obtain ⟨w', t, t1, -, -, -, t5⟩ := hw.2.2.2.1
      have := jn_eq (t1.symm.trans g1) (by omega) (by omega)
      have := t5 hz
      omega
    have hm0 : ¬ jh_I hm 66 0 b = 0 := hmo
    have hmc : ¬ jh_I hc 7 r 0 = 0 := by rw [em1]; exact hm0
    show jx_W (jm_JV_date, d + 40, 0, 0, false, 0, _) _ 0 0 0 [some (jv_r 10 0), some (jv_i (nI n)), some (jv_i 1), none, none] [] _
    refine jr_aload rfl rfl ?_
    refine jr_getR rfl rfl rfl rfl (Or.inl rfl) ?_
    refine jr_iload rfl rfl ?_
    refine jr_cv1 (mc' := 0) (ms' := 0) rfl jm_Cal_monthHolding_n jm_Cal_monthHolding_f rfl rfl rfl rfl rfl rfl rfl (Nat.zero_le _) (Nat.zero_le _) ?_
    refine ev_hold g2 hl hL2 (hA.2.1.trans g1) (by omega) hi h1 h2 ?_
    refine jr_ist3 rfl rfl ?_
    refine jr_iload rfl rfl ?_
    refine jr_ic rfl ?_
    refine jr_icmp_eq rfl (fun z => absurd z (show ¬ nI i = -1 from fun z => nI_pos (show i < 2 ^ 31 by omega) (by rw [z]; decide))) (fun _ => ?_)
    refine jr_aload rfl rfl ?_
    refine jr_getM rfl rfl rfl rfl hto ?_
    refine jr_getI rfl rfl ?_
    refine jr_if_ne rfl (fun _ => ?_) (fun z => absurd z hmc)
    refine jr_iload rfl rfl ?_
    refine jr_aload rfl rfl ?_
    refine jr_getR rfl rfl rfl rfl (Or.inl rfl) ?_
    refine jr_iload rfl rfl ?_
    refine jr_cv1 (mc' := 0) (ms' := 0) rfl jm_Cal_firstDay_n jm_Cal_firstDay_f rfl rfl rfl rfl rfl rfl rfl (Nat.zero_le _) (Nat.zero_le _) ?_
    refine ev_firstDay (f := fun j => nI ((fun j => (jA hm (37 + j)).toNatClampNeg) j)) (by omega) (fun j hj => hL2 j (by omega)) ?_
    rw [jw_pf_sum (f := (fun j => (jA hm (37 + j)).toNatClampNeg)) (fun _ _ => rfl)]
    refine jr_isub rfl ?_
    rw [pk_sub h1]
    refine jr_ist4 rfl rfl ?_
    refine jr_iload rfl rfl ?_
    refine jr_tsw rfl ?_
    refine ⟨fun z => absurd z (by decide), fun _ => ?_⟩
    refine ⟨fun _ => ?_, fun z => absurd (by decide) z⟩
    refine jr_iload rfl rfl ?_
    refine jr_aload rfl rfl ?_
    refine jr_getM rfl rfl rfl rfl hto ?_
    refine jr_getI rfl rfl ?_
    rw [em1]
    refine jr_irem rfl hm0 ?_
    refine jr_iret rfl rfl (Nat.zero_le _) (Nat.zero_le _) ?_
    show jx_W (jm_MD_date, d + 40, 0, 0, false, 1, _) _ 0 0 0 [some _, some _, some _, none, none] [] _
    refine jr_iload rfl rfl ?_
    refine jr_ic rfl ?_
    refine jr_aload rfl rfl ?_
    refine jr_getR rfl rfl rfl rfl (Or.inl rfl) ?_
    refine jr_ic rfl ?_
    refine jr_iald (len := 337) rfl rfl (show _ = nI 1 from rfl) (by decide) ?_
    refine jr_ic rfl ?_
    refine jr_isub rfl ?_
    refine jr_cs3 (mc' := 0) (ms' := 0) rfl jm_MD_isIn_n jm_MD_isIn_f rfl rfl rfl rfl rfl (Nat.zero_le _) (Nat.zero_le _) ?_
    show jx_W (jm_MD_isIn, _, _, _, _, _, _) _ 0 0 0 [some _, some _, some _] [] _
    refine jr_iload rfl rfl ?_
    refine jr_iload rfl rfl ?_
    refine jr_icmp_lt rfl (fun m2MDisIn => ?_) (fun m2MDisIn => ?_)
    · refine jr_ic rfl ?_
      refine jr_zret rfl rfl rfl (Nat.zero_le _) (Nat.zero_le _) ?_
      refine jr_if_eq rfl (fun _ => ?_) (fun z => absurd (by decide) z)
      refine jr_ic rfl ?_
      refine jr_iret rfl rfl (Nat.zero_le _) (Nat.zero_le _) ?_
      first
        | exact ⟨rfl, hRel0⟩
        | (exfalso; omega)
        | (exfalso; simp (disch := omega) only [Int32.lt_iff_toInt_lt, Int32.le_iff_toInt_le, ← Int32.toInt_inj, Int32.reduceToInt, nI_toInt] at m2MDisIn; done)
        | (exfalso; simp (disch := omega) only [Int32.lt_iff_toInt_lt, Int32.le_iff_toInt_le, ← Int32.toInt_inj, Int32.reduceToInt, nI_toInt] at m2MDisIn; omega)
    · refine jr_iload rfl rfl ?_
      refine jr_iload rfl rfl ?_
      refine jr_icmp_gt rfl (fun m5MDisIn => ?_) (fun m5MDisIn => ?_)
      · refine jr_ic rfl ?_
        refine jr_zret rfl rfl rfl (Nat.zero_le _) (Nat.zero_le _) ?_
        refine jr_if_eq rfl (fun _ => ?_) (fun z => absurd (by decide) z)
        refine jr_ic rfl ?_
        refine jr_iret rfl rfl (Nat.zero_le _) (Nat.zero_le _) ?_
        first
          | exact ⟨rfl, hRel0⟩
          | (exfalso; omega)
          | (exfalso; simp (disch := omega) only [Int32.lt_iff_toInt_lt, Int32.le_iff_toInt_le, ← Int32.toInt_inj, Int32.reduceToInt, nI_toInt] at m2MDisIn m5MDisIn; done)
          | (exfalso; simp (disch := omega) only [Int32.lt_iff_toInt_lt, Int32.le_iff_toInt_le, ← Int32.toInt_inj, Int32.reduceToInt, nI_toInt] at m2MDisIn m5MDisIn; omega)
      · refine jr_ic rfl ?_
        refine jr_goto rfl ?_
        refine jr_zret rfl rfl rfl (Nat.zero_le _) (Nat.zero_le _) ?_
        refine jr_if_eq rfl (fun z => absurd z (by decide)) (fun _ => ?_)
        refine jr_iload rfl rfl ?_
        refine jr_ic rfl ?_
        refine jr_ic rfl ?_
        refine jr_cs3 (mc' := 0) (ms' := 0) rfl jm_MD_isIn_n jm_MD_isIn_f rfl rfl rfl rfl rfl (Nat.zero_le _) (Nat.zero_le _) ?_
        show jx_W (jm_MD_isIn, _, _, _, _, _, _) _ 0 0 0 [some _, some _, some _] [] _
        refine jr_iload rfl rfl ?_
        refine jr_iload rfl rfl ?_
        refine jr_icmp_lt rfl (fun z => absurd z (by decide)) (fun _ => ?_)
        refine jr_iload rfl rfl ?_
        refine jr_iload rfl rfl ?_
        refine jr_icmp_gt rfl (fun z => absurd z (by decide)) (fun _ => ?_)
        refine jr_ic rfl ?_
        refine jr_goto rfl ?_
        refine jr_zret rfl rfl rfl (Nat.zero_le _) (Nat.zero_le _) ?_
        refine jr_if_ne rfl (fun _ => ?_) (fun z => absurd z (by decide))
        refine jr_ic rfl ?_
        refine jr_ist3 rfl rfl ?_
        refine jr_iload rfl rfl ?_
        refine jr_ist4 rfl rfl ?_
        refine lp_MD_date (n := n) (w := w) (i := i) (z := 1) (f := (fun j => (jA hm (37 + j)).toNatClampNeg)) 0 g2 hl hf (by omega) (Nat.zero_le _) hi h1 h2 ?_
        refine jr_iload rfl rfl ?_
        refine jr_ic rfl ?_
        refine jr_icmp_ne rfl (fun _ => ?_) (fun z => absurd z (by decide))
        refine jr_iload rfl rfl ?_
        refine jr_if_ne rfl (fun _ => ?_) (fun z => absurd z (by decide))
        refine jr_iload rfl rfl ?_
        refine jr_ic rfl ?_
        refine jr_icmp_ne rfl (fun z => absurd (by decide) z) (fun _ => ?_)
        refine jr_iload rfl rfl ?_
        refine jr_aload rfl rfl ?_
        refine jr_getR rfl rfl rfl rfl (Or.inl rfl) ?_
        refine jr_aload rfl rfl ?_
        refine jr_getI rfl rfl ?_
        refine jr_iald (len := 2) rfl rfl hw.1 (by omega) ?_
        refine jr_irem rfl hm0 ?_
        refine jr_goto rfl ?_
        refine jr_iret rfl rfl (Nat.zero_le _) (Nat.zero_le _) ?_
        exact ⟨rfl, hRel0⟩
  · show jx_W (jm_JV_date, d + 40, 0, 0, false, 0, _) _ 0 0 0 [some (jv_r 10 0), some (jv_i x), some (jv_i 1), none, none] [] _
    refine jr_aload rfl rfl ?_
    refine jr_getR rfl rfl rfl rfl (Or.inl rfl) ?_
    refine jr_iload rfl rfl ?_
    refine jr_cv1 (mc' := 0) (ms' := 0) rfl jm_Cal_monthHolding_n jm_Cal_monthHolding_f rfl rfl rfl rfl rfl rfl rfl (Nat.zero_le _) (Nat.zero_le _) ?_
    refine ev_hold0 g2 hl hL2 (hA.2.1.trans g1) hn ?_
    refine jr_ist3 rfl rfl ?_
    refine jr_iload rfl rfl ?_
    refine jr_ic rfl ?_
    refine jr_icmp_eq rfl (fun _ => ?_) (fun z => absurd (by decide) z)
    refine jr_ic rfl ?_
    refine jr_iret rfl rfl (Nat.zero_le _) (Nat.zero_le _) ?_
    show jx_W (jm_MD_date, d + 40, 0, 0, false, 1, _) _ 0 0 0 [some _, some _, some _, none, none] [] _
    refine jr_iload rfl rfl ?_
    refine jr_ic rfl ?_
    refine jr_aload rfl rfl ?_
    refine jr_getR rfl rfl rfl rfl (Or.inl rfl) ?_
    refine jr_ic rfl ?_
    refine jr_iald (len := 337) rfl rfl (show _ = nI 1 from rfl) (by decide) ?_
    refine jr_ic rfl ?_
    refine jr_isub rfl ?_
    refine jr_cs3 (mc' := 0) (ms' := 0) rfl jm_MD_isIn_n jm_MD_isIn_f rfl rfl rfl rfl rfl (Nat.zero_le _) (Nat.zero_le _) ?_
    show jx_W (jm_MD_isIn, _, _, _, _, _, _) _ 0 0 0 [some _, some _, some _] [] _
    refine jr_iload rfl rfl ?_
    refine jr_iload rfl rfl ?_
    refine jr_icmp_lt rfl (fun m2MDisIn => ?_) (fun m2MDisIn => ?_)
    · refine jr_ic rfl ?_
      refine jr_zret rfl rfl rfl (Nat.zero_le _) (Nat.zero_le _) ?_
      refine jr_if_eq rfl (fun _ => ?_) (fun z => absurd (by decide) z)
      refine jr_ic rfl ?_
      refine jr_iret rfl rfl (Nat.zero_le _) (Nat.zero_le _) ?_
      first
        | exact ⟨rfl, hRel0⟩
        | (exfalso; omega)
        | (exfalso; simp (disch := omega) only [Int32.lt_iff_toInt_lt, Int32.le_iff_toInt_le, ← Int32.toInt_inj, Int32.reduceToInt, nI_toInt] at m2MDisIn; done)
        | (exfalso; simp (disch := omega) only [Int32.lt_iff_toInt_lt, Int32.le_iff_toInt_le, ← Int32.toInt_inj, Int32.reduceToInt, nI_toInt] at m2MDisIn; omega)
    · refine jr_iload rfl rfl ?_
      refine jr_iload rfl rfl ?_
      refine jr_icmp_gt rfl (fun m5MDisIn => ?_) (fun m5MDisIn => ?_)
      · refine jr_ic rfl ?_
        refine jr_zret rfl rfl rfl (Nat.zero_le _) (Nat.zero_le _) ?_
        refine jr_if_eq rfl (fun _ => ?_) (fun z => absurd (by decide) z)
        refine jr_ic rfl ?_
        refine jr_iret rfl rfl (Nat.zero_le _) (Nat.zero_le _) ?_
        first
          | exact ⟨rfl, hRel0⟩
          | (exfalso; omega)
          | (exfalso; simp (disch := omega) only [Int32.lt_iff_toInt_lt, Int32.le_iff_toInt_le, ← Int32.toInt_inj, Int32.reduceToInt, nI_toInt] at m2MDisIn m5MDisIn; done)
          | (exfalso; simp (disch := omega) only [Int32.lt_iff_toInt_lt, Int32.le_iff_toInt_le, ← Int32.toInt_inj, Int32.reduceToInt, nI_toInt] at m2MDisIn m5MDisIn; omega)
      · refine jr_ic rfl ?_
        refine jr_goto rfl ?_
        refine jr_zret rfl rfl rfl (Nat.zero_le _) (Nat.zero_le _) ?_
        refine jr_if_eq rfl (fun z => absurd z (by decide)) (fun _ => ?_)
        refine jr_iload rfl rfl ?_
        refine jr_ic rfl ?_
        refine jr_ic rfl ?_
        refine jr_cs3 (mc' := 0) (ms' := 0) rfl jm_MD_isIn_n jm_MD_isIn_f rfl rfl rfl rfl rfl (Nat.zero_le _) (Nat.zero_le _) ?_
        show jx_W (jm_MD_isIn, _, _, _, _, _, _) _ 0 0 0 [some _, some _, some _] [] _
        refine jr_iload rfl rfl ?_
        refine jr_iload rfl rfl ?_
        refine jr_icmp_lt rfl (fun z => absurd z (by decide)) (fun _ => ?_)
        refine jr_iload rfl rfl ?_
        refine jr_iload rfl rfl ?_
        refine jr_icmp_gt rfl (fun z => absurd z (by decide)) (fun _ => ?_)
        refine jr_ic rfl ?_
        refine jr_goto rfl ?_
        refine jr_zret rfl rfl rfl (Nat.zero_le _) (Nat.zero_le _) ?_
        refine jr_if_ne rfl (fun _ => ?_) (fun z => absurd z (by decide))
        refine jr_ic rfl ?_
        refine jr_ist3 rfl rfl ?_
        refine jr_iload rfl rfl ?_
        refine jr_ist4 rfl rfl ?_
        first
          | (exfalso; omega)
          | (exfalso; simp (disch := omega) only [Int32.lt_iff_toInt_lt, Int32.le_iff_toInt_le, ← Int32.toInt_inj, Int32.reduceToInt, nI_toInt] at m2MDisIn m5MDisIn; done)
          | (exfalso; simp (disch := omega) only [Int32.lt_iff_toInt_lt, Int32.le_iff_toInt_le, ← Int32.toInt_inj, Int32.reduceToInt, nI_toInt] at m2MDisIn m5MDisIn; omega)

set_option maxHeartbeats 800000 in
set_option maxRecDepth 100000 in
theorem pd_date_2 {d : Nat} {hc hm : jx_H} {x : Int32} (hRel : jz_Rel hc hm) : jx_Ev jm_JV_date (d + 40) 0 0 false 0 [jv_r 10 0, jv_i x, jv_i 2] hc (fun r hc' => jx_Ev jm_MD_date (d + 40) 0 0 false 1 [jv_r 11 0, jv_i x, jv_i 2] hm (fun r' hm' => r = r' ∧ jz_Rel hc' hm')) := by
  have hRel0 := hRel
  obtain ⟨b, r, ⟨hw, hG, hr2, hto, hsp, hR, hA, hL⟩, hTa, hFa, hLy, hTi, hLe, hBo, hAc, hWo⟩ := hRel
  have hb2 := hw.2.1
  have hnm := hw.2.2.1.1
  have hnm5 := hnm.2
  have km1 : (jh_I hc 7 r 0).toInt = (jz_nm hm b : Int) := by rw [hR.1]; exact (congrArg Int32.toInt hnm.1).trans (nI_toInt (by omega))
  have km2 : (jh_I hm 66 0 b).toInt = (jz_nm hm b : Int) := (congrArg Int32.toInt hnm.1).trans (nI_toInt (by omega))
  have km3 : (jh_I hm 66 0 b - 1).toInt = (jz_nm hm b : Int) - 1 := by rw [Int32.toInt_sub, km2, show (1 : Int32).toInt = 1 from rfl]; exact jn_sm (by omega) (by omega)
  obtain ⟨-, w, g1, g2, g3, g4⟩ := id hG
  have hl0 : ∀ j, j < w → (jA hm (37 + j)).toNatClampNeg ≤ 31 ∧ jA hm (37 + j) = nI (jA hm (37 + j)).toNatClampNeg := fun j hj => by
    obtain ⟨l, e1, e2⟩ := g4 j hj
    rw [e1, nI_clamp (by omega)]; exact ⟨e2, rfl⟩
  have hl : ∀ j, j < w → (fun j => (jA hm (37 + j)).toNatClampNeg) j ≤ 31 := fun j hj => (hl0 j hj).1
  have hf : ∀ j, j < w → jA hm (37 + j) = nI ((fun j => (jA hm (37 + j)).toNatClampNeg) j) := fun j hj => (hl0 j hj).2
  have hL2 : ∀ j, j < w → jh_I hc 31 0 j = nI ((fun j => (jA hm (37 + j)).toNatClampNeg) j) := fun j hj => (hL j (by rw [jn_1 g1 (by omega)]; exact hj)).trans (hf j hj)
  have hb := jw_pf_le (f := (fun j => (jA hm (37 + j)).toNatClampNeg)) (w := w) hl
  have hdays : jh_I hm 98 0 1 = nI (jw_pf (fun j => (jA hm (37 + j)).toNatClampNeg) w) := (show jA hm 1 = _ from g3).trans (jw_pf_sum hf)
  have q3 := jz_gm hdays (by omega)
  obtain ⟨wk, hk1, hk2, hk3⟩ := hw.2.2.1.2.2.2.2.2.2.2.1
  have ek1 : jh_I hc 7 r 10 = nI wk := hR.2.2.2.2.2.2.2.2.2.1.trans hk1
  have ek2 : jh_I hm 81 0 b = nI wk := hk1
  have eb1 : jh_I hc 7 r 11 = jh_I hm 88 0 b := hR.2.2.2.2.2.2.2.2.2.2.1
  have em1 : jh_I hc 7 r 0 = jh_I hm 66 0 b := hR.1
  rcases nI_dec x (jw_pf (fun j => (jA hm (37 + j)).toNatClampNeg) w) (by omega) with ⟨n, rfl, hn, hn2⟩ | hn
  · obtain ⟨i, hi, h1, h2⟩ := jw_pf_ex hn
    have hmo : ¬ jC hm b 0 0 = 0 := fun z => by
      have hz : jz_nm hm b = 0 := by have : (jh_I hm 66 0 b).toInt = 0 := congrArg Int32.toInt z; omega
      obtain ⟨w', t, t1, -, -, -, t5⟩ := hw.2.2.2.1
      have := jn_eq (t1.symm.trans g1) (by omega) (by omega)
      have := t5 hz
      omega
    have hm0 : ¬ jh_I hm 66 0 b = 0 := hmo
    have hmc : ¬ jh_I hc 7 r 0 = 0 := by rw [em1]; exact hm0
    show jx_W (jm_JV_date, d + 40, 0, 0, false, 0, _) _ 0 0 0 [some (jv_r 10 0), some (jv_i (nI n)), some (jv_i 2), none, none] [] _
    refine jr_aload rfl rfl ?_
    refine jr_getR rfl rfl rfl rfl (Or.inl rfl) ?_
    refine jr_iload rfl rfl ?_
    refine jr_cv1 (mc' := 0) (ms' := 0) rfl jm_Cal_monthHolding_n jm_Cal_monthHolding_f rfl rfl rfl rfl rfl rfl rfl (Nat.zero_le _) (Nat.zero_le _) ?_
    refine ev_hold g2 hl hL2 (hA.2.1.trans g1) (by omega) hi h1 h2 ?_
    refine jr_ist3 rfl rfl ?_
    refine jr_iload rfl rfl ?_
    refine jr_ic rfl ?_
    refine jr_icmp_eq rfl (fun z => absurd z (show ¬ nI i = -1 from fun z => nI_pos (show i < 2 ^ 31 by omega) (by rw [z]; decide))) (fun _ => ?_)
    refine jr_aload rfl rfl ?_
    refine jr_getM rfl rfl rfl rfl hto ?_
    refine jr_getI rfl rfl ?_
    refine jr_if_ne rfl (fun _ => ?_) (fun z => absurd z hmc)
    refine jr_iload rfl rfl ?_
    refine jr_aload rfl rfl ?_
    refine jr_getR rfl rfl rfl rfl (Or.inl rfl) ?_
    refine jr_iload rfl rfl ?_
    refine jr_cv1 (mc' := 0) (ms' := 0) rfl jm_Cal_firstDay_n jm_Cal_firstDay_f rfl rfl rfl rfl rfl rfl rfl (Nat.zero_le _) (Nat.zero_le _) ?_
    refine ev_firstDay (f := fun j => nI ((fun j => (jA hm (37 + j)).toNatClampNeg) j)) (by omega) (fun j hj => hL2 j (by omega)) ?_
    rw [jw_pf_sum (f := (fun j => (jA hm (37 + j)).toNatClampNeg)) (fun _ _ => rfl)]
    refine jr_isub rfl ?_
    rw [pk_sub h1]
    refine jr_ist4 rfl rfl ?_
    refine jr_iload rfl rfl ?_
    refine jr_tsw rfl ?_
    refine ⟨fun z => absurd z (by decide), fun _ => ?_⟩
    refine ⟨fun z => absurd z (by decide), fun _ => ?_⟩
    refine ⟨fun _ => ?_, fun z => absurd (by decide) z⟩
    refine jr_iload rfl rfl ?_
    refine jr_ic rfl ?_
    refine jr_iadd rfl ?_
    refine jr_iret rfl rfl (Nat.zero_le _) (Nat.zero_le _) ?_
    show jx_W (jm_MD_date, d + 40, 0, 0, false, 1, _) _ 0 0 0 [some _, some _, some _, none, none] [] _
    refine jr_iload rfl rfl ?_
    refine jr_ic rfl ?_
    refine jr_aload rfl rfl ?_
    refine jr_getR rfl rfl rfl rfl (Or.inl rfl) ?_
    refine jr_ic rfl ?_
    refine jr_iald (len := 337) rfl rfl (show _ = nI 1 from rfl) (by decide) ?_
    refine jr_ic rfl ?_
    refine jr_isub rfl ?_
    refine jr_cs3 (mc' := 0) (ms' := 0) rfl jm_MD_isIn_n jm_MD_isIn_f rfl rfl rfl rfl rfl (Nat.zero_le _) (Nat.zero_le _) ?_
    show jx_W (jm_MD_isIn, _, _, _, _, _, _) _ 0 0 0 [some _, some _, some _] [] _
    refine jr_iload rfl rfl ?_
    refine jr_iload rfl rfl ?_
    refine jr_icmp_lt rfl (fun m2MDisIn => ?_) (fun m2MDisIn => ?_)
    · refine jr_ic rfl ?_
      refine jr_zret rfl rfl rfl (Nat.zero_le _) (Nat.zero_le _) ?_
      refine jr_if_eq rfl (fun _ => ?_) (fun z => absurd (by decide) z)
      refine jr_ic rfl ?_
      refine jr_iret rfl rfl (Nat.zero_le _) (Nat.zero_le _) ?_
      first
        | exact ⟨rfl, hRel0⟩
        | (exfalso; omega)
        | (exfalso; simp (disch := omega) only [Int32.lt_iff_toInt_lt, Int32.le_iff_toInt_le, ← Int32.toInt_inj, Int32.reduceToInt, nI_toInt] at m2MDisIn; done)
        | (exfalso; simp (disch := omega) only [Int32.lt_iff_toInt_lt, Int32.le_iff_toInt_le, ← Int32.toInt_inj, Int32.reduceToInt, nI_toInt] at m2MDisIn; omega)
    · refine jr_iload rfl rfl ?_
      refine jr_iload rfl rfl ?_
      refine jr_icmp_gt rfl (fun m5MDisIn => ?_) (fun m5MDisIn => ?_)
      · refine jr_ic rfl ?_
        refine jr_zret rfl rfl rfl (Nat.zero_le _) (Nat.zero_le _) ?_
        refine jr_if_eq rfl (fun _ => ?_) (fun z => absurd (by decide) z)
        refine jr_ic rfl ?_
        refine jr_iret rfl rfl (Nat.zero_le _) (Nat.zero_le _) ?_
        first
          | exact ⟨rfl, hRel0⟩
          | (exfalso; omega)
          | (exfalso; simp (disch := omega) only [Int32.lt_iff_toInt_lt, Int32.le_iff_toInt_le, ← Int32.toInt_inj, Int32.reduceToInt, nI_toInt] at m2MDisIn m5MDisIn; done)
          | (exfalso; simp (disch := omega) only [Int32.lt_iff_toInt_lt, Int32.le_iff_toInt_le, ← Int32.toInt_inj, Int32.reduceToInt, nI_toInt] at m2MDisIn m5MDisIn; omega)
      · refine jr_ic rfl ?_
        refine jr_goto rfl ?_
        refine jr_zret rfl rfl rfl (Nat.zero_le _) (Nat.zero_le _) ?_
        refine jr_if_eq rfl (fun z => absurd z (by decide)) (fun _ => ?_)
        refine jr_iload rfl rfl ?_
        refine jr_ic rfl ?_
        refine jr_ic rfl ?_
        refine jr_cs3 (mc' := 0) (ms' := 0) rfl jm_MD_isIn_n jm_MD_isIn_f rfl rfl rfl rfl rfl (Nat.zero_le _) (Nat.zero_le _) ?_
        show jx_W (jm_MD_isIn, _, _, _, _, _, _) _ 0 0 0 [some _, some _, some _] [] _
        refine jr_iload rfl rfl ?_
        refine jr_iload rfl rfl ?_
        refine jr_icmp_lt rfl (fun z => absurd z (by decide)) (fun _ => ?_)
        refine jr_iload rfl rfl ?_
        refine jr_iload rfl rfl ?_
        refine jr_icmp_gt rfl (fun z => absurd z (by decide)) (fun _ => ?_)
        refine jr_ic rfl ?_
        refine jr_goto rfl ?_
        refine jr_zret rfl rfl rfl (Nat.zero_le _) (Nat.zero_le _) ?_
        refine jr_if_ne rfl (fun _ => ?_) (fun z => absurd z (by decide))
        refine jr_ic rfl ?_
        refine jr_ist3 rfl rfl ?_
        refine jr_iload rfl rfl ?_
        refine jr_ist4 rfl rfl ?_
        refine lp_MD_date (n := n) (w := w) (i := i) (z := 2) (f := (fun j => (jA hm (37 + j)).toNatClampNeg)) 0 g2 hl hf (by omega) (Nat.zero_le _) hi h1 h2 ?_
        refine jr_iload rfl rfl ?_
        refine jr_ic rfl ?_
        refine jr_icmp_ne rfl (fun _ => ?_) (fun z => absurd z (by decide))
        refine jr_iload rfl rfl ?_
        refine jr_if_ne rfl (fun _ => ?_) (fun z => absurd z (by decide))
        refine jr_iload rfl rfl ?_
        refine jr_ic rfl ?_
        refine jr_icmp_ne rfl (fun _ => ?_) (fun z => absurd z (by decide))
        refine jr_iload rfl rfl ?_
        refine jr_ic rfl ?_
        refine jr_iadd rfl ?_
        refine jr_iret rfl rfl (Nat.zero_le _) (Nat.zero_le _) ?_
        exact ⟨rfl, hRel0⟩
  · show jx_W (jm_JV_date, d + 40, 0, 0, false, 0, _) _ 0 0 0 [some (jv_r 10 0), some (jv_i x), some (jv_i 2), none, none] [] _
    refine jr_aload rfl rfl ?_
    refine jr_getR rfl rfl rfl rfl (Or.inl rfl) ?_
    refine jr_iload rfl rfl ?_
    refine jr_cv1 (mc' := 0) (ms' := 0) rfl jm_Cal_monthHolding_n jm_Cal_monthHolding_f rfl rfl rfl rfl rfl rfl rfl (Nat.zero_le _) (Nat.zero_le _) ?_
    refine ev_hold0 g2 hl hL2 (hA.2.1.trans g1) hn ?_
    refine jr_ist3 rfl rfl ?_
    refine jr_iload rfl rfl ?_
    refine jr_ic rfl ?_
    refine jr_icmp_eq rfl (fun _ => ?_) (fun z => absurd (by decide) z)
    refine jr_ic rfl ?_
    refine jr_iret rfl rfl (Nat.zero_le _) (Nat.zero_le _) ?_
    show jx_W (jm_MD_date, d + 40, 0, 0, false, 1, _) _ 0 0 0 [some _, some _, some _, none, none] [] _
    refine jr_iload rfl rfl ?_
    refine jr_ic rfl ?_
    refine jr_aload rfl rfl ?_
    refine jr_getR rfl rfl rfl rfl (Or.inl rfl) ?_
    refine jr_ic rfl ?_
    refine jr_iald (len := 337) rfl rfl (show _ = nI 1 from rfl) (by decide) ?_
    refine jr_ic rfl ?_
    refine jr_isub rfl ?_
    refine jr_cs3 (mc' := 0) (ms' := 0) rfl jm_MD_isIn_n jm_MD_isIn_f rfl rfl rfl rfl rfl (Nat.zero_le _) (Nat.zero_le _) ?_
    show jx_W (jm_MD_isIn, _, _, _, _, _, _) _ 0 0 0 [some _, some _, some _] [] _
    refine jr_iload rfl rfl ?_
    refine jr_iload rfl rfl ?_
    refine jr_icmp_lt rfl (fun m2MDisIn => ?_) (fun m2MDisIn => ?_)
    · refine jr_ic rfl ?_
      refine jr_zret rfl rfl rfl (Nat.zero_le _) (Nat.zero_le _) ?_
      refine jr_if_eq rfl (fun _ => ?_) (fun z => absurd (by decide) z)
      refine jr_ic rfl ?_
      refine jr_iret rfl rfl (Nat.zero_le _) (Nat.zero_le _) ?_
      first
        | exact ⟨rfl, hRel0⟩
        | (exfalso; omega)
        | (exfalso; simp (disch := omega) only [Int32.lt_iff_toInt_lt, Int32.le_iff_toInt_le, ← Int32.toInt_inj, Int32.reduceToInt, nI_toInt] at m2MDisIn; done)
        | (exfalso; simp (disch := omega) only [Int32.lt_iff_toInt_lt, Int32.le_iff_toInt_le, ← Int32.toInt_inj, Int32.reduceToInt, nI_toInt] at m2MDisIn; omega)
    · refine jr_iload rfl rfl ?_
      refine jr_iload rfl rfl ?_
      refine jr_icmp_gt rfl (fun m5MDisIn => ?_) (fun m5MDisIn => ?_)
      · refine jr_ic rfl ?_
        refine jr_zret rfl rfl rfl (Nat.zero_le _) (Nat.zero_le _) ?_
        refine jr_if_eq rfl (fun _ => ?_) (fun z => absurd (by decide) z)
        refine jr_ic rfl ?_
        refine jr_iret rfl rfl (Nat.zero_le _) (Nat.zero_le _) ?_
        first
          | exact ⟨rfl, hRel0⟩
          | (exfalso; omega)
          | (exfalso; simp (disch := omega) only [Int32.lt_iff_toInt_lt, Int32.le_iff_toInt_le, ← Int32.toInt_inj, Int32.reduceToInt, nI_toInt] at m2MDisIn m5MDisIn; done)
          | (exfalso; simp (disch := omega) only [Int32.lt_iff_toInt_lt, Int32.le_iff_toInt_le, ← Int32.toInt_inj, Int32.reduceToInt, nI_toInt] at m2MDisIn m5MDisIn; omega)
      · refine jr_ic rfl ?_
        refine jr_goto rfl ?_
        refine jr_zret rfl rfl rfl (Nat.zero_le _) (Nat.zero_le _) ?_
        refine jr_if_eq rfl (fun z => absurd z (by decide)) (fun _ => ?_)
        refine jr_iload rfl rfl ?_
        refine jr_ic rfl ?_
        refine jr_ic rfl ?_
        refine jr_cs3 (mc' := 0) (ms' := 0) rfl jm_MD_isIn_n jm_MD_isIn_f rfl rfl rfl rfl rfl (Nat.zero_le _) (Nat.zero_le _) ?_
        show jx_W (jm_MD_isIn, _, _, _, _, _, _) _ 0 0 0 [some _, some _, some _] [] _
        refine jr_iload rfl rfl ?_
        refine jr_iload rfl rfl ?_
        refine jr_icmp_lt rfl (fun z => absurd z (by decide)) (fun _ => ?_)
        refine jr_iload rfl rfl ?_
        refine jr_iload rfl rfl ?_
        refine jr_icmp_gt rfl (fun z => absurd z (by decide)) (fun _ => ?_)
        refine jr_ic rfl ?_
        refine jr_goto rfl ?_
        refine jr_zret rfl rfl rfl (Nat.zero_le _) (Nat.zero_le _) ?_
        refine jr_if_ne rfl (fun _ => ?_) (fun z => absurd z (by decide))
        refine jr_ic rfl ?_
        refine jr_ist3 rfl rfl ?_
        refine jr_iload rfl rfl ?_
        refine jr_ist4 rfl rfl ?_
        first
          | (exfalso; omega)
          | (exfalso; simp (disch := omega) only [Int32.lt_iff_toInt_lt, Int32.le_iff_toInt_le, ← Int32.toInt_inj, Int32.reduceToInt, nI_toInt] at m2MDisIn m5MDisIn; done)
          | (exfalso; simp (disch := omega) only [Int32.lt_iff_toInt_lt, Int32.le_iff_toInt_le, ← Int32.toInt_inj, Int32.reduceToInt, nI_toInt] at m2MDisIn m5MDisIn; omega)

set_option maxHeartbeats 800000 in
set_option maxRecDepth 100000 in
theorem pd_date_3 {d : Nat} {hc hm : jx_H} {x : Int32} (hRel : jz_Rel hc hm) : jx_Ev jm_JV_date (d + 40) 0 0 false 0 [jv_r 10 0, jv_i x, jv_i 3] hc (fun r hc' => jx_Ev jm_MD_date (d + 40) 0 0 false 1 [jv_r 11 0, jv_i x, jv_i 3] hm (fun r' hm' => r = r' ∧ jz_Rel hc' hm')) := by
  have hRel0 := hRel
  obtain ⟨b, r, ⟨hw, hG, hr2, hto, hsp, hR, hA, hL⟩, hTa, hFa, hLy, hTi, hLe, hBo, hAc, hWo⟩ := hRel
  have hb2 := hw.2.1
  have hnm := hw.2.2.1.1
  have hnm5 := hnm.2
  have km1 : (jh_I hc 7 r 0).toInt = (jz_nm hm b : Int) := by rw [hR.1]; exact (congrArg Int32.toInt hnm.1).trans (nI_toInt (by omega))
  have km2 : (jh_I hm 66 0 b).toInt = (jz_nm hm b : Int) := (congrArg Int32.toInt hnm.1).trans (nI_toInt (by omega))
  have km3 : (jh_I hm 66 0 b - 1).toInt = (jz_nm hm b : Int) - 1 := by rw [Int32.toInt_sub, km2, show (1 : Int32).toInt = 1 from rfl]; exact jn_sm (by omega) (by omega)
  obtain ⟨-, w, g1, g2, g3, g4⟩ := id hG
  have hl0 : ∀ j, j < w → (jA hm (37 + j)).toNatClampNeg ≤ 31 ∧ jA hm (37 + j) = nI (jA hm (37 + j)).toNatClampNeg := fun j hj => by
    obtain ⟨l, e1, e2⟩ := g4 j hj
    rw [e1, nI_clamp (by omega)]; exact ⟨e2, rfl⟩
  have hl : ∀ j, j < w → (fun j => (jA hm (37 + j)).toNatClampNeg) j ≤ 31 := fun j hj => (hl0 j hj).1
  have hf : ∀ j, j < w → jA hm (37 + j) = nI ((fun j => (jA hm (37 + j)).toNatClampNeg) j) := fun j hj => (hl0 j hj).2
  have hL2 : ∀ j, j < w → jh_I hc 31 0 j = nI ((fun j => (jA hm (37 + j)).toNatClampNeg) j) := fun j hj => (hL j (by rw [jn_1 g1 (by omega)]; exact hj)).trans (hf j hj)
  have hb := jw_pf_le (f := (fun j => (jA hm (37 + j)).toNatClampNeg)) (w := w) hl
  have hdays : jh_I hm 98 0 1 = nI (jw_pf (fun j => (jA hm (37 + j)).toNatClampNeg) w) := (show jA hm 1 = _ from g3).trans (jw_pf_sum hf)
  have q3 := jz_gm hdays (by omega)
  obtain ⟨wk, hk1, hk2, hk3⟩ := hw.2.2.1.2.2.2.2.2.2.2.1
  have ek1 : jh_I hc 7 r 10 = nI wk := hR.2.2.2.2.2.2.2.2.2.1.trans hk1
  have ek2 : jh_I hm 81 0 b = nI wk := hk1
  have eb1 : jh_I hc 7 r 11 = jh_I hm 88 0 b := hR.2.2.2.2.2.2.2.2.2.2.1
  have em1 : jh_I hc 7 r 0 = jh_I hm 66 0 b := hR.1
  rcases nI_dec x (jw_pf (fun j => (jA hm (37 + j)).toNatClampNeg) w) (by omega) with ⟨n, rfl, hn, hn2⟩ | hn
  · obtain ⟨i, hi, h1, h2⟩ := jw_pf_ex hn
    have hmo : ¬ jC hm b 0 0 = 0 := fun z => by
      have hz : jz_nm hm b = 0 := by have : (jh_I hm 66 0 b).toInt = 0 := congrArg Int32.toInt z; omega
      obtain ⟨w', t, t1, -, -, -, t5⟩ := hw.2.2.2.1
      have := jn_eq (t1.symm.trans g1) (by omega) (by omega)
      have := t5 hz
      omega
    have hm0 : ¬ jh_I hm 66 0 b = 0 := hmo
    have hmc : ¬ jh_I hc 7 r 0 = 0 := by rw [em1]; exact hm0
    show jx_W (jm_JV_date, d + 40, 0, 0, false, 0, _) _ 0 0 0 [some (jv_r 10 0), some (jv_i (nI n)), some (jv_i 3), none, none] [] _
    refine jr_aload rfl rfl ?_
    refine jr_getR rfl rfl rfl rfl (Or.inl rfl) ?_
    refine jr_iload rfl rfl ?_
    refine jr_cv1 (mc' := 0) (ms' := 0) rfl jm_Cal_monthHolding_n jm_Cal_monthHolding_f rfl rfl rfl rfl rfl rfl rfl (Nat.zero_le _) (Nat.zero_le _) ?_
    refine ev_hold g2 hl hL2 (hA.2.1.trans g1) (by omega) hi h1 h2 ?_
    refine jr_ist3 rfl rfl ?_
    refine jr_iload rfl rfl ?_
    refine jr_ic rfl ?_
    refine jr_icmp_eq rfl (fun z => absurd z (show ¬ nI i = -1 from fun z => nI_pos (show i < 2 ^ 31 by omega) (by rw [z]; decide))) (fun _ => ?_)
    refine jr_aload rfl rfl ?_
    refine jr_getM rfl rfl rfl rfl hto ?_
    refine jr_getI rfl rfl ?_
    refine jr_if_ne rfl (fun _ => ?_) (fun z => absurd z hmc)
    refine jr_iload rfl rfl ?_
    refine jr_aload rfl rfl ?_
    refine jr_getR rfl rfl rfl rfl (Or.inl rfl) ?_
    refine jr_iload rfl rfl ?_
    refine jr_cv1 (mc' := 0) (ms' := 0) rfl jm_Cal_firstDay_n jm_Cal_firstDay_f rfl rfl rfl rfl rfl rfl rfl (Nat.zero_le _) (Nat.zero_le _) ?_
    refine ev_firstDay (f := fun j => nI ((fun j => (jA hm (37 + j)).toNatClampNeg) j)) (by omega) (fun j hj => hL2 j (by omega)) ?_
    rw [jw_pf_sum (f := (fun j => (jA hm (37 + j)).toNatClampNeg)) (fun _ _ => rfl)]
    refine jr_isub rfl ?_
    rw [pk_sub h1]
    refine jr_ist4 rfl rfl ?_
    refine jr_iload rfl rfl ?_
    refine jr_tsw rfl ?_
    refine ⟨fun z => absurd z (by decide), fun _ => ?_⟩
    refine ⟨fun z => absurd z (by decide), fun _ => ?_⟩
    refine ⟨fun z => absurd z (by decide), fun _ => ?_⟩
    refine ⟨fun _ => ?_, fun z => absurd (by decide) z⟩
    refine jr_aload rfl rfl ?_
    refine jr_getM rfl rfl rfl rfl hto ?_
    refine jr_aload rfl rfl ?_
    refine jr_getM rfl rfl rfl rfl hto ?_
    refine jr_getZ rfl rfl ?_
    rw [eb1]
    refine jr_if_eq rfl (fun c44 => ?_) (fun c44 => ?_)
    · refine jr_iload rfl rfl ?_
      refine jr_cv1 (mc' := 0) (ms' := 0) rfl jm_Rep_weekDay_n jm_Rep_weekDay_f rfl rfl rfl rfl rfl rfl rfl (Nat.zero_le _) (Nat.zero_le _) ?_
      show jx_W (jm_Rep_weekDay, _, _, _, _, _, _) _ 0 0 0 [some _, some _] [] _
      refine jr_aload rfl rfl ?_
      refine jr_getI rfl rfl ?_
      rw [ek1]
      refine jr_if_le rfl (fun z => absurd z (nI_nle (by omega) (by omega))) (fun _ => ?_)
      refine jr_iload rfl rfl ?_
      refine jr_aload rfl rfl ?_
      refine jr_getI rfl rfl ?_
      rw [ek1]
      refine jr_cs2 (mc' := 0) (ms' := 0) rfl jm_Math_floorMod_n jm_Math_floorMod_f rfl rfl rfl rfl rfl (Nat.zero_le _) (Nat.zero_le _) ?_
      refine ev_floorModN (by omega) hk2 (by omega) ?_
      refine jr_goto rfl ?_
      refine jr_iret rfl rfl (Nat.zero_le _) (Nat.zero_le _) ?_
      refine jr_iret rfl rfl (Nat.zero_le _) (Nat.zero_le _) ?_
      show jx_W (jm_MD_date, d + 40, 0, 0, false, 1, _) _ 0 0 0 [some _, some _, some _, none, none] [] _
      refine jr_iload rfl rfl ?_
      refine jr_ic rfl ?_
      refine jr_aload rfl rfl ?_
      refine jr_getR rfl rfl rfl rfl (Or.inl rfl) ?_
      refine jr_ic rfl ?_
      refine jr_iald (len := 337) rfl rfl (show _ = nI 1 from rfl) (by decide) ?_
      refine jr_ic rfl ?_
      refine jr_isub rfl ?_
      refine jr_cs3 (mc' := 0) (ms' := 0) rfl jm_MD_isIn_n jm_MD_isIn_f rfl rfl rfl rfl rfl (Nat.zero_le _) (Nat.zero_le _) ?_
      show jx_W (jm_MD_isIn, _, _, _, _, _, _) _ 0 0 0 [some _, some _, some _] [] _
      refine jr_iload rfl rfl ?_
      refine jr_iload rfl rfl ?_
      refine jr_icmp_lt rfl (fun m2MDisIn => ?_) (fun m2MDisIn => ?_)
      · refine jr_ic rfl ?_
        refine jr_zret rfl rfl rfl (Nat.zero_le _) (Nat.zero_le _) ?_
        refine jr_if_eq rfl (fun _ => ?_) (fun z => absurd (by decide) z)
        refine jr_ic rfl ?_
        refine jr_iret rfl rfl (Nat.zero_le _) (Nat.zero_le _) ?_
        first
          | exact ⟨rfl, hRel0⟩
          | (exfalso; omega)
          | (exfalso; simp (disch := omega) only [Int32.lt_iff_toInt_lt, Int32.le_iff_toInt_le, ← Int32.toInt_inj, Int32.reduceToInt, nI_toInt] at c44 m2MDisIn; done)
          | (exfalso; simp (disch := omega) only [Int32.lt_iff_toInt_lt, Int32.le_iff_toInt_le, ← Int32.toInt_inj, Int32.reduceToInt, nI_toInt] at c44 m2MDisIn; omega)
      · refine jr_iload rfl rfl ?_
        refine jr_iload rfl rfl ?_
        refine jr_icmp_gt rfl (fun m5MDisIn => ?_) (fun m5MDisIn => ?_)
        · refine jr_ic rfl ?_
          refine jr_zret rfl rfl rfl (Nat.zero_le _) (Nat.zero_le _) ?_
          refine jr_if_eq rfl (fun _ => ?_) (fun z => absurd (by decide) z)
          refine jr_ic rfl ?_
          refine jr_iret rfl rfl (Nat.zero_le _) (Nat.zero_le _) ?_
          first
            | exact ⟨rfl, hRel0⟩
            | (exfalso; omega)
            | (exfalso; simp (disch := omega) only [Int32.lt_iff_toInt_lt, Int32.le_iff_toInt_le, ← Int32.toInt_inj, Int32.reduceToInt, nI_toInt] at c44 m2MDisIn m5MDisIn; done)
            | (exfalso; simp (disch := omega) only [Int32.lt_iff_toInt_lt, Int32.le_iff_toInt_le, ← Int32.toInt_inj, Int32.reduceToInt, nI_toInt] at c44 m2MDisIn m5MDisIn; omega)
        · refine jr_ic rfl ?_
          refine jr_goto rfl ?_
          refine jr_zret rfl rfl rfl (Nat.zero_le _) (Nat.zero_le _) ?_
          refine jr_if_eq rfl (fun z => absurd z (by decide)) (fun _ => ?_)
          refine jr_iload rfl rfl ?_
          refine jr_ic rfl ?_
          refine jr_ic rfl ?_
          refine jr_cs3 (mc' := 0) (ms' := 0) rfl jm_MD_isIn_n jm_MD_isIn_f rfl rfl rfl rfl rfl (Nat.zero_le _) (Nat.zero_le _) ?_
          show jx_W (jm_MD_isIn, _, _, _, _, _, _) _ 0 0 0 [some _, some _, some _] [] _
          refine jr_iload rfl rfl ?_
          refine jr_iload rfl rfl ?_
          refine jr_icmp_lt rfl (fun z => absurd z (by decide)) (fun _ => ?_)
          refine jr_iload rfl rfl ?_
          refine jr_iload rfl rfl ?_
          refine jr_icmp_gt rfl (fun z => absurd z (by decide)) (fun _ => ?_)
          refine jr_ic rfl ?_
          refine jr_goto rfl ?_
          refine jr_zret rfl rfl rfl (Nat.zero_le _) (Nat.zero_le _) ?_
          refine jr_if_ne rfl (fun _ => ?_) (fun z => absurd z (by decide))
          refine jr_ic rfl ?_
          refine jr_ist3 rfl rfl ?_
          refine jr_iload rfl rfl ?_
          refine jr_ist4 rfl rfl ?_
          refine lp_MD_date (n := n) (w := w) (i := i) (z := 3) (f := (fun j => (jA hm (37 + j)).toNatClampNeg)) 0 g2 hl hf (by omega) (Nat.zero_le _) hi h1 h2 ?_
          refine jr_iload rfl rfl ?_
          refine jr_ic rfl ?_
          refine jr_icmp_ne rfl (fun z => absurd (by decide) z) (fun _ => ?_)
          refine jr_aload rfl rfl ?_
          refine jr_getR rfl rfl rfl rfl (Or.inl rfl) ?_
          refine jr_aload rfl rfl ?_
          refine jr_getI rfl rfl ?_
          refine jr_zald (len := 2) rfl rfl hw.1 (by omega) ?_
          refine jr_if_eq rfl (fun m48 => ?_) (fun m48 => ?_)
          · refine jr_iload rfl rfl ?_
            refine jr_aload rfl rfl ?_
            refine jr_getR rfl rfl rfl rfl (Or.inl rfl) ?_
            refine jr_aload rfl rfl ?_
            refine jr_getI rfl rfl ?_
            refine jr_iald (len := 2) rfl rfl hw.1 (by omega) ?_
            rw [ek2]
            refine jr_irem rfl (nI_ne0 hk2 (by omega)) ?_
            refine jr_iret rfl rfl (Nat.zero_le _) (Nat.zero_le _) ?_
            rw [jw_rem_s, jn_rem (by omega) (by omega) (by omega)]
            first
              | exact ⟨rfl, hRel0⟩
              | exact absurd c44 m48
              | exact absurd m48 c44
          · refine jr_iload rfl rfl ?_
            refine jr_goto rfl ?_
            refine jr_aload rfl rfl ?_
            refine jr_getR rfl rfl rfl rfl (Or.inl rfl) ?_
            refine jr_aload rfl rfl ?_
            refine jr_getI rfl rfl ?_
            refine jr_iald (len := 2) rfl rfl hw.1 (by omega) ?_
            rw [ek2]
            refine jr_irem rfl (nI_ne0 hk2 (by omega)) ?_
            refine jr_iret rfl rfl (Nat.zero_le _) (Nat.zero_le _) ?_
            rw [jw_rem_s, jn_rem (by omega) (by omega) (by omega)]
            first
              | exact ⟨rfl, hRel0⟩
              | exact absurd c44 m48
              | exact absurd m48 c44
    · refine jr_iload rfl rfl ?_
      refine jr_goto rfl ?_
      refine jr_cv1 (mc' := 0) (ms' := 0) rfl jm_Rep_weekDay_n jm_Rep_weekDay_f rfl rfl rfl rfl rfl rfl rfl (Nat.zero_le _) (Nat.zero_le _) ?_
      show jx_W (jm_Rep_weekDay, _, _, _, _, _, _) _ 0 0 0 [some _, some _] [] _
      refine jr_aload rfl rfl ?_
      refine jr_getI rfl rfl ?_
      rw [ek1]
      refine jr_if_le rfl (fun z => absurd z (nI_nle (by omega) (by omega))) (fun _ => ?_)
      refine jr_iload rfl rfl ?_
      refine jr_aload rfl rfl ?_
      refine jr_getI rfl rfl ?_
      rw [ek1]
      refine jr_cs2 (mc' := 0) (ms' := 0) rfl jm_Math_floorMod_n jm_Math_floorMod_f rfl rfl rfl rfl rfl (Nat.zero_le _) (Nat.zero_le _) ?_
      refine ev_floorModN (by omega) hk2 (by omega) ?_
      refine jr_goto rfl ?_
      refine jr_iret rfl rfl (Nat.zero_le _) (Nat.zero_le _) ?_
      refine jr_iret rfl rfl (Nat.zero_le _) (Nat.zero_le _) ?_
      show jx_W (jm_MD_date, d + 40, 0, 0, false, 1, _) _ 0 0 0 [some _, some _, some _, none, none] [] _
      refine jr_iload rfl rfl ?_
      refine jr_ic rfl ?_
      refine jr_aload rfl rfl ?_
      refine jr_getR rfl rfl rfl rfl (Or.inl rfl) ?_
      refine jr_ic rfl ?_
      refine jr_iald (len := 337) rfl rfl (show _ = nI 1 from rfl) (by decide) ?_
      refine jr_ic rfl ?_
      refine jr_isub rfl ?_
      refine jr_cs3 (mc' := 0) (ms' := 0) rfl jm_MD_isIn_n jm_MD_isIn_f rfl rfl rfl rfl rfl (Nat.zero_le _) (Nat.zero_le _) ?_
      show jx_W (jm_MD_isIn, _, _, _, _, _, _) _ 0 0 0 [some _, some _, some _] [] _
      refine jr_iload rfl rfl ?_
      refine jr_iload rfl rfl ?_
      refine jr_icmp_lt rfl (fun m2MDisIn => ?_) (fun m2MDisIn => ?_)
      · refine jr_ic rfl ?_
        refine jr_zret rfl rfl rfl (Nat.zero_le _) (Nat.zero_le _) ?_
        refine jr_if_eq rfl (fun _ => ?_) (fun z => absurd (by decide) z)
        refine jr_ic rfl ?_
        refine jr_iret rfl rfl (Nat.zero_le _) (Nat.zero_le _) ?_
        first
          | exact ⟨rfl, hRel0⟩
          | (exfalso; omega)
          | (exfalso; simp (disch := omega) only [Int32.lt_iff_toInt_lt, Int32.le_iff_toInt_le, ← Int32.toInt_inj, Int32.reduceToInt, nI_toInt] at c44 m2MDisIn; done)
          | (exfalso; simp (disch := omega) only [Int32.lt_iff_toInt_lt, Int32.le_iff_toInt_le, ← Int32.toInt_inj, Int32.reduceToInt, nI_toInt] at c44 m2MDisIn; omega)
      · refine jr_iload rfl rfl ?_
        refine jr_iload rfl rfl ?_
        refine jr_icmp_gt rfl (fun m5MDisIn => ?_) (fun m5MDisIn => ?_)
        · refine jr_ic rfl ?_
          refine jr_zret rfl rfl rfl (Nat.zero_le _) (Nat.zero_le _) ?_
          refine jr_if_eq rfl (fun _ => ?_) (fun z => absurd (by decide) z)
          refine jr_ic rfl ?_
          refine jr_iret rfl rfl (Nat.zero_le _) (Nat.zero_le _) ?_
          first
            | exact ⟨rfl, hRel0⟩
            | (exfalso; omega)
            | (exfalso; simp (disch := omega) only [Int32.lt_iff_toInt_lt, Int32.le_iff_toInt_le, ← Int32.toInt_inj, Int32.reduceToInt, nI_toInt] at c44 m2MDisIn m5MDisIn; done)
            | (exfalso; simp (disch := omega) only [Int32.lt_iff_toInt_lt, Int32.le_iff_toInt_le, ← Int32.toInt_inj, Int32.reduceToInt, nI_toInt] at c44 m2MDisIn m5MDisIn; omega)
        · refine jr_ic rfl ?_
          refine jr_goto rfl ?_
          refine jr_zret rfl rfl rfl (Nat.zero_le _) (Nat.zero_le _) ?_
          refine jr_if_eq rfl (fun z => absurd z (by decide)) (fun _ => ?_)
          refine jr_iload rfl rfl ?_
          refine jr_ic rfl ?_
          refine jr_ic rfl ?_
          refine jr_cs3 (mc' := 0) (ms' := 0) rfl jm_MD_isIn_n jm_MD_isIn_f rfl rfl rfl rfl rfl (Nat.zero_le _) (Nat.zero_le _) ?_
          show jx_W (jm_MD_isIn, _, _, _, _, _, _) _ 0 0 0 [some _, some _, some _] [] _
          refine jr_iload rfl rfl ?_
          refine jr_iload rfl rfl ?_
          refine jr_icmp_lt rfl (fun z => absurd z (by decide)) (fun _ => ?_)
          refine jr_iload rfl rfl ?_
          refine jr_iload rfl rfl ?_
          refine jr_icmp_gt rfl (fun z => absurd z (by decide)) (fun _ => ?_)
          refine jr_ic rfl ?_
          refine jr_goto rfl ?_
          refine jr_zret rfl rfl rfl (Nat.zero_le _) (Nat.zero_le _) ?_
          refine jr_if_ne rfl (fun _ => ?_) (fun z => absurd z (by decide))
          refine jr_ic rfl ?_
          refine jr_ist3 rfl rfl ?_
          refine jr_iload rfl rfl ?_
          refine jr_ist4 rfl rfl ?_
          refine lp_MD_date (n := n) (w := w) (i := i) (z := 3) (f := (fun j => (jA hm (37 + j)).toNatClampNeg)) 0 g2 hl hf (by omega) (Nat.zero_le _) hi h1 h2 ?_
          refine jr_iload rfl rfl ?_
          refine jr_ic rfl ?_
          refine jr_icmp_ne rfl (fun z => absurd (by decide) z) (fun _ => ?_)
          refine jr_aload rfl rfl ?_
          refine jr_getR rfl rfl rfl rfl (Or.inl rfl) ?_
          refine jr_aload rfl rfl ?_
          refine jr_getI rfl rfl ?_
          refine jr_zald (len := 2) rfl rfl hw.1 (by omega) ?_
          refine jr_if_eq rfl (fun m48 => ?_) (fun m48 => ?_)
          · refine jr_iload rfl rfl ?_
            refine jr_aload rfl rfl ?_
            refine jr_getR rfl rfl rfl rfl (Or.inl rfl) ?_
            refine jr_aload rfl rfl ?_
            refine jr_getI rfl rfl ?_
            refine jr_iald (len := 2) rfl rfl hw.1 (by omega) ?_
            rw [ek2]
            refine jr_irem rfl (nI_ne0 hk2 (by omega)) ?_
            refine jr_iret rfl rfl (Nat.zero_le _) (Nat.zero_le _) ?_
            rw [jw_rem_s, jn_rem (by omega) (by omega) (by omega)]
            first
              | exact ⟨rfl, hRel0⟩
              | exact absurd c44 m48
              | exact absurd m48 c44
          · refine jr_iload rfl rfl ?_
            refine jr_goto rfl ?_
            refine jr_aload rfl rfl ?_
            refine jr_getR rfl rfl rfl rfl (Or.inl rfl) ?_
            refine jr_aload rfl rfl ?_
            refine jr_getI rfl rfl ?_
            refine jr_iald (len := 2) rfl rfl hw.1 (by omega) ?_
            rw [ek2]
            refine jr_irem rfl (nI_ne0 hk2 (by omega)) ?_
            refine jr_iret rfl rfl (Nat.zero_le _) (Nat.zero_le _) ?_
            rw [jw_rem_s, jn_rem (by omega) (by omega) (by omega)]
            first
              | exact ⟨rfl, hRel0⟩
              | exact absurd c44 m48
              | exact absurd m48 c44
  · show jx_W (jm_JV_date, d + 40, 0, 0, false, 0, _) _ 0 0 0 [some (jv_r 10 0), some (jv_i x), some (jv_i 3), none, none] [] _
    refine jr_aload rfl rfl ?_
    refine jr_getR rfl rfl rfl rfl (Or.inl rfl) ?_
    refine jr_iload rfl rfl ?_
    refine jr_cv1 (mc' := 0) (ms' := 0) rfl jm_Cal_monthHolding_n jm_Cal_monthHolding_f rfl rfl rfl rfl rfl rfl rfl (Nat.zero_le _) (Nat.zero_le _) ?_
    refine ev_hold0 g2 hl hL2 (hA.2.1.trans g1) hn ?_
    refine jr_ist3 rfl rfl ?_
    refine jr_iload rfl rfl ?_
    refine jr_ic rfl ?_
    refine jr_icmp_eq rfl (fun _ => ?_) (fun z => absurd (by decide) z)
    refine jr_ic rfl ?_
    refine jr_iret rfl rfl (Nat.zero_le _) (Nat.zero_le _) ?_
    show jx_W (jm_MD_date, d + 40, 0, 0, false, 1, _) _ 0 0 0 [some _, some _, some _, none, none] [] _
    refine jr_iload rfl rfl ?_
    refine jr_ic rfl ?_
    refine jr_aload rfl rfl ?_
    refine jr_getR rfl rfl rfl rfl (Or.inl rfl) ?_
    refine jr_ic rfl ?_
    refine jr_iald (len := 337) rfl rfl (show _ = nI 1 from rfl) (by decide) ?_
    refine jr_ic rfl ?_
    refine jr_isub rfl ?_
    refine jr_cs3 (mc' := 0) (ms' := 0) rfl jm_MD_isIn_n jm_MD_isIn_f rfl rfl rfl rfl rfl (Nat.zero_le _) (Nat.zero_le _) ?_
    show jx_W (jm_MD_isIn, _, _, _, _, _, _) _ 0 0 0 [some _, some _, some _] [] _
    refine jr_iload rfl rfl ?_
    refine jr_iload rfl rfl ?_
    refine jr_icmp_lt rfl (fun m2MDisIn => ?_) (fun m2MDisIn => ?_)
    · refine jr_ic rfl ?_
      refine jr_zret rfl rfl rfl (Nat.zero_le _) (Nat.zero_le _) ?_
      refine jr_if_eq rfl (fun _ => ?_) (fun z => absurd (by decide) z)
      refine jr_ic rfl ?_
      refine jr_iret rfl rfl (Nat.zero_le _) (Nat.zero_le _) ?_
      first
        | exact ⟨rfl, hRel0⟩
        | (exfalso; omega)
        | (exfalso; simp (disch := omega) only [Int32.lt_iff_toInt_lt, Int32.le_iff_toInt_le, ← Int32.toInt_inj, Int32.reduceToInt, nI_toInt] at m2MDisIn; done)
        | (exfalso; simp (disch := omega) only [Int32.lt_iff_toInt_lt, Int32.le_iff_toInt_le, ← Int32.toInt_inj, Int32.reduceToInt, nI_toInt] at m2MDisIn; omega)
    · refine jr_iload rfl rfl ?_
      refine jr_iload rfl rfl ?_
      refine jr_icmp_gt rfl (fun m5MDisIn => ?_) (fun m5MDisIn => ?_)
      · refine jr_ic rfl ?_
        refine jr_zret rfl rfl rfl (Nat.zero_le _) (Nat.zero_le _) ?_
        refine jr_if_eq rfl (fun _ => ?_) (fun z => absurd (by decide) z)
        refine jr_ic rfl ?_
        refine jr_iret rfl rfl (Nat.zero_le _) (Nat.zero_le _) ?_
        first
          | exact ⟨rfl, hRel0⟩
          | (exfalso; omega)
          | (exfalso; simp (disch := omega) only [Int32.lt_iff_toInt_lt, Int32.le_iff_toInt_le, ← Int32.toInt_inj, Int32.reduceToInt, nI_toInt] at m2MDisIn m5MDisIn; done)
          | (exfalso; simp (disch := omega) only [Int32.lt_iff_toInt_lt, Int32.le_iff_toInt_le, ← Int32.toInt_inj, Int32.reduceToInt, nI_toInt] at m2MDisIn m5MDisIn; omega)
      · refine jr_ic rfl ?_
        refine jr_goto rfl ?_
        refine jr_zret rfl rfl rfl (Nat.zero_le _) (Nat.zero_le _) ?_
        refine jr_if_eq rfl (fun z => absurd z (by decide)) (fun _ => ?_)
        refine jr_iload rfl rfl ?_
        refine jr_ic rfl ?_
        refine jr_ic rfl ?_
        refine jr_cs3 (mc' := 0) (ms' := 0) rfl jm_MD_isIn_n jm_MD_isIn_f rfl rfl rfl rfl rfl (Nat.zero_le _) (Nat.zero_le _) ?_
        show jx_W (jm_MD_isIn, _, _, _, _, _, _) _ 0 0 0 [some _, some _, some _] [] _
        refine jr_iload rfl rfl ?_
        refine jr_iload rfl rfl ?_
        refine jr_icmp_lt rfl (fun z => absurd z (by decide)) (fun _ => ?_)
        refine jr_iload rfl rfl ?_
        refine jr_iload rfl rfl ?_
        refine jr_icmp_gt rfl (fun z => absurd z (by decide)) (fun _ => ?_)
        refine jr_ic rfl ?_
        refine jr_goto rfl ?_
        refine jr_zret rfl rfl rfl (Nat.zero_le _) (Nat.zero_le _) ?_
        refine jr_if_ne rfl (fun _ => ?_) (fun z => absurd z (by decide))
        refine jr_ic rfl ?_
        refine jr_ist3 rfl rfl ?_
        refine jr_iload rfl rfl ?_
        refine jr_ist4 rfl rfl ?_
        first
          | (exfalso; omega)
          | (exfalso; simp (disch := omega) only [Int32.lt_iff_toInt_lt, Int32.le_iff_toInt_le, ← Int32.toInt_inj, Int32.reduceToInt, nI_toInt] at m2MDisIn m5MDisIn; done)
          | (exfalso; simp (disch := omega) only [Int32.lt_iff_toInt_lt, Int32.le_iff_toInt_le, ← Int32.toInt_inj, Int32.reduceToInt, nI_toInt] at m2MDisIn m5MDisIn; omega)

set_option maxHeartbeats 800000 in
set_option maxRecDepth 100000 in
theorem pd_date_o {d : Nat} {hc hm : jx_H} {x y : Int32} (hRel : jz_Rel hc hm) (hy0 : ¬ y = 0) (hy1 : ¬ y = 1) (hy2 : ¬ y = 2) (hy3 : ¬ y = 3) : jx_Ev jm_JV_date (d + 40) 0 0 false 0 [jv_r 10 0, jv_i x, jv_i y] hc (fun r hc' => jx_Ev jm_MD_date (d + 40) 0 0 false 1 [jv_r 11 0, jv_i x, jv_i y] hm (fun r' hm' => r = r' ∧ jz_Rel hc' hm')) := by
  have hRel0 := hRel
  obtain ⟨b, r, ⟨hw, hG, hr2, hto, hsp, hR, hA, hL⟩, hTa, hFa, hLy, hTi, hLe, hBo, hAc, hWo⟩ := hRel
  have hb2 := hw.2.1
  have hnm := hw.2.2.1.1
  have hnm5 := hnm.2
  have km1 : (jh_I hc 7 r 0).toInt = (jz_nm hm b : Int) := by rw [hR.1]; exact (congrArg Int32.toInt hnm.1).trans (nI_toInt (by omega))
  have km2 : (jh_I hm 66 0 b).toInt = (jz_nm hm b : Int) := (congrArg Int32.toInt hnm.1).trans (nI_toInt (by omega))
  have km3 : (jh_I hm 66 0 b - 1).toInt = (jz_nm hm b : Int) - 1 := by rw [Int32.toInt_sub, km2, show (1 : Int32).toInt = 1 from rfl]; exact jn_sm (by omega) (by omega)
  obtain ⟨-, w, g1, g2, g3, g4⟩ := id hG
  have hl0 : ∀ j, j < w → (jA hm (37 + j)).toNatClampNeg ≤ 31 ∧ jA hm (37 + j) = nI (jA hm (37 + j)).toNatClampNeg := fun j hj => by
    obtain ⟨l, e1, e2⟩ := g4 j hj
    rw [e1, nI_clamp (by omega)]; exact ⟨e2, rfl⟩
  have hl : ∀ j, j < w → (fun j => (jA hm (37 + j)).toNatClampNeg) j ≤ 31 := fun j hj => (hl0 j hj).1
  have hf : ∀ j, j < w → jA hm (37 + j) = nI ((fun j => (jA hm (37 + j)).toNatClampNeg) j) := fun j hj => (hl0 j hj).2
  have hL2 : ∀ j, j < w → jh_I hc 31 0 j = nI ((fun j => (jA hm (37 + j)).toNatClampNeg) j) := fun j hj => (hL j (by rw [jn_1 g1 (by omega)]; exact hj)).trans (hf j hj)
  have hb := jw_pf_le (f := (fun j => (jA hm (37 + j)).toNatClampNeg)) (w := w) hl
  have hdays : jh_I hm 98 0 1 = nI (jw_pf (fun j => (jA hm (37 + j)).toNatClampNeg) w) := (show jA hm 1 = _ from g3).trans (jw_pf_sum hf)
  have q3 := jz_gm hdays (by omega)
  obtain ⟨wk, hk1, hk2, hk3⟩ := hw.2.2.1.2.2.2.2.2.2.2.1
  have ek1 : jh_I hc 7 r 10 = nI wk := hR.2.2.2.2.2.2.2.2.2.1.trans hk1
  have ek2 : jh_I hm 81 0 b = nI wk := hk1
  have eb1 : jh_I hc 7 r 11 = jh_I hm 88 0 b := hR.2.2.2.2.2.2.2.2.2.2.1
  have em1 : jh_I hc 7 r 0 = jh_I hm 66 0 b := hR.1
  simp only [← Int32.toInt_inj, Int32.reduceToInt] at hy0 hy1 hy2 hy3
  rcases nI_dec x (jw_pf (fun j => (jA hm (37 + j)).toNatClampNeg) w) (by omega) with ⟨n, rfl, hn, hn2⟩ | hn
  · obtain ⟨i, hi, h1, h2⟩ := jw_pf_ex hn
    have hmo : ¬ jC hm b 0 0 = 0 := fun z => by
      have hz : jz_nm hm b = 0 := by have : (jh_I hm 66 0 b).toInt = 0 := congrArg Int32.toInt z; omega
      obtain ⟨w', t, t1, -, -, -, t5⟩ := hw.2.2.2.1
      have := jn_eq (t1.symm.trans g1) (by omega) (by omega)
      have := t5 hz
      omega
    have hm0 : ¬ jh_I hm 66 0 b = 0 := hmo
    have hmc : ¬ jh_I hc 7 r 0 = 0 := by rw [em1]; exact hm0
    show jx_W (jm_JV_date, d + 40, 0, 0, false, 0, _) _ 0 0 0 [some (jv_r 10 0), some (jv_i (nI n)), some (jv_i y), none, none] [] _
    refine jr_aload rfl rfl ?_
    refine jr_getR rfl rfl rfl rfl (Or.inl rfl) ?_
    refine jr_iload rfl rfl ?_
    refine jr_cv1 (mc' := 0) (ms' := 0) rfl jm_Cal_monthHolding_n jm_Cal_monthHolding_f rfl rfl rfl rfl rfl rfl rfl (Nat.zero_le _) (Nat.zero_le _) ?_
    refine ev_hold g2 hl hL2 (hA.2.1.trans g1) (by omega) hi h1 h2 ?_
    refine jr_ist3 rfl rfl ?_
    refine jr_iload rfl rfl ?_
    refine jr_ic rfl ?_
    refine jr_icmp_eq rfl (fun z => absurd z (show ¬ nI i = -1 from fun z => nI_pos (show i < 2 ^ 31 by omega) (by rw [z]; decide))) (fun _ => ?_)
    refine jr_aload rfl rfl ?_
    refine jr_getM rfl rfl rfl rfl hto ?_
    refine jr_getI rfl rfl ?_
    refine jr_if_ne rfl (fun _ => ?_) (fun z => absurd z hmc)
    refine jr_iload rfl rfl ?_
    refine jr_aload rfl rfl ?_
    refine jr_getR rfl rfl rfl rfl (Or.inl rfl) ?_
    refine jr_iload rfl rfl ?_
    refine jr_cv1 (mc' := 0) (ms' := 0) rfl jm_Cal_firstDay_n jm_Cal_firstDay_f rfl rfl rfl rfl rfl rfl rfl (Nat.zero_le _) (Nat.zero_le _) ?_
    refine ev_firstDay (f := fun j => nI ((fun j => (jA hm (37 + j)).toNatClampNeg) j)) (by omega) (fun j hj => hL2 j (by omega)) ?_
    rw [jw_pf_sum (f := (fun j => (jA hm (37 + j)).toNatClampNeg)) (fun _ _ => rfl)]
    refine jr_isub rfl ?_
    rw [pk_sub h1]
    refine jr_ist4 rfl rfl ?_
    refine jr_iload rfl rfl ?_
    refine jr_tsw rfl ?_
    refine ⟨fun c22 => ?_, fun n22_0 => ?_⟩
    · refine jr_iload rfl rfl ?_
      refine jr_aload rfl rfl ?_
      refine jr_getM rfl rfl rfl rfl hto ?_
      refine jr_getI rfl rfl ?_
      rw [em1]
      refine jr_idiv rfl hm0 ?_
      refine jr_iret rfl rfl (Nat.zero_le _) (Nat.zero_le _) ?_
      show jx_W (jm_MD_date, d + 40, 0, 0, false, 1, _) _ 0 0 0 [some _, some _, some _, none, none] [] _
      refine jr_iload rfl rfl ?_
      refine jr_ic rfl ?_
      refine jr_aload rfl rfl ?_
      refine jr_getR rfl rfl rfl rfl (Or.inl rfl) ?_
      refine jr_ic rfl ?_
      refine jr_iald (len := 337) rfl rfl (show _ = nI 1 from rfl) (by decide) ?_
      refine jr_ic rfl ?_
      refine jr_isub rfl ?_
      refine jr_cs3 (mc' := 0) (ms' := 0) rfl jm_MD_isIn_n jm_MD_isIn_f rfl rfl rfl rfl rfl (Nat.zero_le _) (Nat.zero_le _) ?_
      show jx_W (jm_MD_isIn, _, _, _, _, _, _) _ 0 0 0 [some _, some _, some _] [] _
      refine jr_iload rfl rfl ?_
      refine jr_iload rfl rfl ?_
      refine jr_icmp_lt rfl (fun m2MDisIn => ?_) (fun m2MDisIn => ?_)
      · refine jr_ic rfl ?_
        refine jr_zret rfl rfl rfl (Nat.zero_le _) (Nat.zero_le _) ?_
        refine jr_if_eq rfl (fun _ => ?_) (fun z => absurd (by decide) z)
        refine jr_ic rfl ?_
        refine jr_iret rfl rfl (Nat.zero_le _) (Nat.zero_le _) ?_
        first
          | exact ⟨rfl, hRel0⟩
          | (exfalso; omega)
          | (exfalso; simp (disch := omega) only [Int32.lt_iff_toInt_lt, Int32.le_iff_toInt_le, ← Int32.toInt_inj, Int32.reduceToInt, nI_toInt] at c22 m2MDisIn; done)
          | (exfalso; simp (disch := omega) only [Int32.lt_iff_toInt_lt, Int32.le_iff_toInt_le, ← Int32.toInt_inj, Int32.reduceToInt, nI_toInt] at c22 m2MDisIn; omega)
      · refine jr_iload rfl rfl ?_
        refine jr_iload rfl rfl ?_
        refine jr_icmp_gt rfl (fun m5MDisIn => ?_) (fun m5MDisIn => ?_)
        · refine jr_ic rfl ?_
          refine jr_zret rfl rfl rfl (Nat.zero_le _) (Nat.zero_le _) ?_
          refine jr_if_eq rfl (fun _ => ?_) (fun z => absurd (by decide) z)
          refine jr_ic rfl ?_
          refine jr_iret rfl rfl (Nat.zero_le _) (Nat.zero_le _) ?_
          first
            | exact ⟨rfl, hRel0⟩
            | (exfalso; omega)
            | (exfalso; simp (disch := omega) only [Int32.lt_iff_toInt_lt, Int32.le_iff_toInt_le, ← Int32.toInt_inj, Int32.reduceToInt, nI_toInt] at c22 m2MDisIn m5MDisIn; done)
            | (exfalso; simp (disch := omega) only [Int32.lt_iff_toInt_lt, Int32.le_iff_toInt_le, ← Int32.toInt_inj, Int32.reduceToInt, nI_toInt] at c22 m2MDisIn m5MDisIn; omega)
        · refine jr_ic rfl ?_
          refine jr_goto rfl ?_
          refine jr_zret rfl rfl rfl (Nat.zero_le _) (Nat.zero_le _) ?_
          refine jr_if_eq rfl (fun z => absurd z (by decide)) (fun _ => ?_)
          refine jr_iload rfl rfl ?_
          refine jr_ic rfl ?_
          refine jr_ic rfl ?_
          refine jr_cs3 (mc' := 0) (ms' := 0) rfl jm_MD_isIn_n jm_MD_isIn_f rfl rfl rfl rfl rfl (Nat.zero_le _) (Nat.zero_le _) ?_
          show jx_W (jm_MD_isIn, _, _, _, _, _, _) _ 0 0 0 [some _, some _, some _] [] _
          refine jr_iload rfl rfl ?_
          refine jr_iload rfl rfl ?_
          refine jr_icmp_lt rfl (fun m2MDisIn_2 => ?_) (fun m2MDisIn_2 => ?_)
          · refine jr_ic rfl ?_
            refine jr_zret rfl rfl rfl (Nat.zero_le _) (Nat.zero_le _) ?_
            refine jr_if_ne rfl (fun z => absurd (by decide) z) (fun _ => ?_)
            refine jr_ic rfl ?_
            refine jr_iret rfl rfl (Nat.zero_le _) (Nat.zero_le _) ?_
            first
              | exact ⟨rfl, hRel0⟩
              | (exfalso; omega)
              | (exfalso; simp (disch := omega) only [Int32.lt_iff_toInt_lt, Int32.le_iff_toInt_le, ← Int32.toInt_inj, Int32.reduceToInt, nI_toInt] at c22 m2MDisIn m5MDisIn m2MDisIn_2; done)
              | (exfalso; simp (disch := omega) only [Int32.lt_iff_toInt_lt, Int32.le_iff_toInt_le, ← Int32.toInt_inj, Int32.reduceToInt, nI_toInt] at c22 m2MDisIn m5MDisIn m2MDisIn_2; omega)
          · refine jr_iload rfl rfl ?_
            refine jr_iload rfl rfl ?_
            refine jr_icmp_gt rfl (fun m5MDisIn_2 => ?_) (fun m5MDisIn_2 => ?_)
            · refine jr_ic rfl ?_
              refine jr_zret rfl rfl rfl (Nat.zero_le _) (Nat.zero_le _) ?_
              refine jr_if_ne rfl (fun z => absurd (by decide) z) (fun _ => ?_)
              refine jr_ic rfl ?_
              refine jr_iret rfl rfl (Nat.zero_le _) (Nat.zero_le _) ?_
              first
                | exact ⟨rfl, hRel0⟩
                | (exfalso; omega)
                | (exfalso; simp (disch := omega) only [Int32.lt_iff_toInt_lt, Int32.le_iff_toInt_le, ← Int32.toInt_inj, Int32.reduceToInt, nI_toInt] at c22 m2MDisIn m5MDisIn m2MDisIn_2 m5MDisIn_2; done)
                | (exfalso; simp (disch := omega) only [Int32.lt_iff_toInt_lt, Int32.le_iff_toInt_le, ← Int32.toInt_inj, Int32.reduceToInt, nI_toInt] at c22 m2MDisIn m5MDisIn m2MDisIn_2 m5MDisIn_2; omega)
            · refine jr_ic rfl ?_
              refine jr_goto rfl ?_
              refine jr_zret rfl rfl rfl (Nat.zero_le _) (Nat.zero_le _) ?_
              refine jr_if_ne rfl (fun _ => ?_) (fun z => absurd z (by decide))
              refine jr_ic rfl ?_
              refine jr_ist3 rfl rfl ?_
              refine jr_iload rfl rfl ?_
              refine jr_ist4 rfl rfl ?_
              first
                | (exfalso; omega)
                | (exfalso; simp (disch := omega) only [Int32.lt_iff_toInt_lt, Int32.le_iff_toInt_le, ← Int32.toInt_inj, Int32.reduceToInt, nI_toInt] at c22 m2MDisIn m5MDisIn m2MDisIn_2 m5MDisIn_2; done)
                | (exfalso; simp (disch := omega) only [Int32.lt_iff_toInt_lt, Int32.le_iff_toInt_le, ← Int32.toInt_inj, Int32.reduceToInt, nI_toInt] at c22 m2MDisIn m5MDisIn m2MDisIn_2 m5MDisIn_2; omega)
    · skip
      refine ⟨fun c22 => ?_, fun n22_1 => ?_⟩
      · refine jr_iload rfl rfl ?_
        refine jr_aload rfl rfl ?_
        refine jr_getM rfl rfl rfl rfl hto ?_
        refine jr_getI rfl rfl ?_
        rw [em1]
        refine jr_irem rfl hm0 ?_
        refine jr_iret rfl rfl (Nat.zero_le _) (Nat.zero_le _) ?_
        show jx_W (jm_MD_date, d + 40, 0, 0, false, 1, _) _ 0 0 0 [some _, some _, some _, none, none] [] _
        refine jr_iload rfl rfl ?_
        refine jr_ic rfl ?_
        refine jr_aload rfl rfl ?_
        refine jr_getR rfl rfl rfl rfl (Or.inl rfl) ?_
        refine jr_ic rfl ?_
        refine jr_iald (len := 337) rfl rfl (show _ = nI 1 from rfl) (by decide) ?_
        refine jr_ic rfl ?_
        refine jr_isub rfl ?_
        refine jr_cs3 (mc' := 0) (ms' := 0) rfl jm_MD_isIn_n jm_MD_isIn_f rfl rfl rfl rfl rfl (Nat.zero_le _) (Nat.zero_le _) ?_
        show jx_W (jm_MD_isIn, _, _, _, _, _, _) _ 0 0 0 [some _, some _, some _] [] _
        refine jr_iload rfl rfl ?_
        refine jr_iload rfl rfl ?_
        refine jr_icmp_lt rfl (fun m2MDisIn => ?_) (fun m2MDisIn => ?_)
        · refine jr_ic rfl ?_
          refine jr_zret rfl rfl rfl (Nat.zero_le _) (Nat.zero_le _) ?_
          refine jr_if_eq rfl (fun _ => ?_) (fun z => absurd (by decide) z)
          refine jr_ic rfl ?_
          refine jr_iret rfl rfl (Nat.zero_le _) (Nat.zero_le _) ?_
          first
            | exact ⟨rfl, hRel0⟩
            | (exfalso; omega)
            | (exfalso; simp (disch := omega) only [Int32.lt_iff_toInt_lt, Int32.le_iff_toInt_le, ← Int32.toInt_inj, Int32.reduceToInt, nI_toInt] at c22 m2MDisIn; done)
            | (exfalso; simp (disch := omega) only [Int32.lt_iff_toInt_lt, Int32.le_iff_toInt_le, ← Int32.toInt_inj, Int32.reduceToInt, nI_toInt] at c22 m2MDisIn; omega)
        · refine jr_iload rfl rfl ?_
          refine jr_iload rfl rfl ?_
          refine jr_icmp_gt rfl (fun m5MDisIn => ?_) (fun m5MDisIn => ?_)
          · refine jr_ic rfl ?_
            refine jr_zret rfl rfl rfl (Nat.zero_le _) (Nat.zero_le _) ?_
            refine jr_if_eq rfl (fun _ => ?_) (fun z => absurd (by decide) z)
            refine jr_ic rfl ?_
            refine jr_iret rfl rfl (Nat.zero_le _) (Nat.zero_le _) ?_
            first
              | exact ⟨rfl, hRel0⟩
              | (exfalso; omega)
              | (exfalso; simp (disch := omega) only [Int32.lt_iff_toInt_lt, Int32.le_iff_toInt_le, ← Int32.toInt_inj, Int32.reduceToInt, nI_toInt] at c22 m2MDisIn m5MDisIn; done)
              | (exfalso; simp (disch := omega) only [Int32.lt_iff_toInt_lt, Int32.le_iff_toInt_le, ← Int32.toInt_inj, Int32.reduceToInt, nI_toInt] at c22 m2MDisIn m5MDisIn; omega)
          · refine jr_ic rfl ?_
            refine jr_goto rfl ?_
            refine jr_zret rfl rfl rfl (Nat.zero_le _) (Nat.zero_le _) ?_
            refine jr_if_eq rfl (fun z => absurd z (by decide)) (fun _ => ?_)
            refine jr_iload rfl rfl ?_
            refine jr_ic rfl ?_
            refine jr_ic rfl ?_
            refine jr_cs3 (mc' := 0) (ms' := 0) rfl jm_MD_isIn_n jm_MD_isIn_f rfl rfl rfl rfl rfl (Nat.zero_le _) (Nat.zero_le _) ?_
            show jx_W (jm_MD_isIn, _, _, _, _, _, _) _ 0 0 0 [some _, some _, some _] [] _
            refine jr_iload rfl rfl ?_
            refine jr_iload rfl rfl ?_
            refine jr_icmp_lt rfl (fun m2MDisIn_2 => ?_) (fun m2MDisIn_2 => ?_)
            · refine jr_ic rfl ?_
              refine jr_zret rfl rfl rfl (Nat.zero_le _) (Nat.zero_le _) ?_
              refine jr_if_ne rfl (fun z => absurd (by decide) z) (fun _ => ?_)
              refine jr_ic rfl ?_
              refine jr_iret rfl rfl (Nat.zero_le _) (Nat.zero_le _) ?_
              first
                | exact ⟨rfl, hRel0⟩
                | (exfalso; omega)
                | (exfalso; simp (disch := omega) only [Int32.lt_iff_toInt_lt, Int32.le_iff_toInt_le, ← Int32.toInt_inj, Int32.reduceToInt, nI_toInt] at c22 m2MDisIn m5MDisIn m2MDisIn_2; done)
                | (exfalso; simp (disch := omega) only [Int32.lt_iff_toInt_lt, Int32.le_iff_toInt_le, ← Int32.toInt_inj, Int32.reduceToInt, nI_toInt] at c22 m2MDisIn m5MDisIn m2MDisIn_2; omega)
            · refine jr_iload rfl rfl ?_
              refine jr_iload rfl rfl ?_
              refine jr_icmp_gt rfl (fun m5MDisIn_2 => ?_) (fun m5MDisIn_2 => ?_)
              · refine jr_ic rfl ?_
                refine jr_zret rfl rfl rfl (Nat.zero_le _) (Nat.zero_le _) ?_
                refine jr_if_ne rfl (fun z => absurd (by decide) z) (fun _ => ?_)
                refine jr_ic rfl ?_
                refine jr_iret rfl rfl (Nat.zero_le _) (Nat.zero_le _) ?_
                first
                  | exact ⟨rfl, hRel0⟩
                  | (exfalso; omega)
                  | (exfalso; simp (disch := omega) only [Int32.lt_iff_toInt_lt, Int32.le_iff_toInt_le, ← Int32.toInt_inj, Int32.reduceToInt, nI_toInt] at c22 m2MDisIn m5MDisIn m2MDisIn_2 m5MDisIn_2; done)
                  | (exfalso; simp (disch := omega) only [Int32.lt_iff_toInt_lt, Int32.le_iff_toInt_le, ← Int32.toInt_inj, Int32.reduceToInt, nI_toInt] at c22 m2MDisIn m5MDisIn m2MDisIn_2 m5MDisIn_2; omega)
              · refine jr_ic rfl ?_
                refine jr_goto rfl ?_
                refine jr_zret rfl rfl rfl (Nat.zero_le _) (Nat.zero_le _) ?_
                refine jr_if_ne rfl (fun _ => ?_) (fun z => absurd z (by decide))
                refine jr_ic rfl ?_
                refine jr_ist3 rfl rfl ?_
                refine jr_iload rfl rfl ?_
                refine jr_ist4 rfl rfl ?_
                first
                  | (exfalso; omega)
                  | (exfalso; simp (disch := omega) only [Int32.lt_iff_toInt_lt, Int32.le_iff_toInt_le, ← Int32.toInt_inj, Int32.reduceToInt, nI_toInt] at c22 m2MDisIn m5MDisIn m2MDisIn_2 m5MDisIn_2; done)
                  | (exfalso; simp (disch := omega) only [Int32.lt_iff_toInt_lt, Int32.le_iff_toInt_le, ← Int32.toInt_inj, Int32.reduceToInt, nI_toInt] at c22 m2MDisIn m5MDisIn m2MDisIn_2 m5MDisIn_2; omega)
      · skip
        refine ⟨fun c22 => ?_, fun n22_2 => ?_⟩
        · refine jr_iload rfl rfl ?_
          refine jr_ic rfl ?_
          refine jr_iadd rfl ?_
          refine jr_iret rfl rfl (Nat.zero_le _) (Nat.zero_le _) ?_
          show jx_W (jm_MD_date, d + 40, 0, 0, false, 1, _) _ 0 0 0 [some _, some _, some _, none, none] [] _
          refine jr_iload rfl rfl ?_
          refine jr_ic rfl ?_
          refine jr_aload rfl rfl ?_
          refine jr_getR rfl rfl rfl rfl (Or.inl rfl) ?_
          refine jr_ic rfl ?_
          refine jr_iald (len := 337) rfl rfl (show _ = nI 1 from rfl) (by decide) ?_
          refine jr_ic rfl ?_
          refine jr_isub rfl ?_
          refine jr_cs3 (mc' := 0) (ms' := 0) rfl jm_MD_isIn_n jm_MD_isIn_f rfl rfl rfl rfl rfl (Nat.zero_le _) (Nat.zero_le _) ?_
          show jx_W (jm_MD_isIn, _, _, _, _, _, _) _ 0 0 0 [some _, some _, some _] [] _
          refine jr_iload rfl rfl ?_
          refine jr_iload rfl rfl ?_
          refine jr_icmp_lt rfl (fun m2MDisIn => ?_) (fun m2MDisIn => ?_)
          · refine jr_ic rfl ?_
            refine jr_zret rfl rfl rfl (Nat.zero_le _) (Nat.zero_le _) ?_
            refine jr_if_eq rfl (fun _ => ?_) (fun z => absurd (by decide) z)
            refine jr_ic rfl ?_
            refine jr_iret rfl rfl (Nat.zero_le _) (Nat.zero_le _) ?_
            first
              | exact ⟨rfl, hRel0⟩
              | (exfalso; omega)
              | (exfalso; simp (disch := omega) only [Int32.lt_iff_toInt_lt, Int32.le_iff_toInt_le, ← Int32.toInt_inj, Int32.reduceToInt, nI_toInt] at c22 m2MDisIn; done)
              | (exfalso; simp (disch := omega) only [Int32.lt_iff_toInt_lt, Int32.le_iff_toInt_le, ← Int32.toInt_inj, Int32.reduceToInt, nI_toInt] at c22 m2MDisIn; omega)
          · refine jr_iload rfl rfl ?_
            refine jr_iload rfl rfl ?_
            refine jr_icmp_gt rfl (fun m5MDisIn => ?_) (fun m5MDisIn => ?_)
            · refine jr_ic rfl ?_
              refine jr_zret rfl rfl rfl (Nat.zero_le _) (Nat.zero_le _) ?_
              refine jr_if_eq rfl (fun _ => ?_) (fun z => absurd (by decide) z)
              refine jr_ic rfl ?_
              refine jr_iret rfl rfl (Nat.zero_le _) (Nat.zero_le _) ?_
              first
                | exact ⟨rfl, hRel0⟩
                | (exfalso; omega)
                | (exfalso; simp (disch := omega) only [Int32.lt_iff_toInt_lt, Int32.le_iff_toInt_le, ← Int32.toInt_inj, Int32.reduceToInt, nI_toInt] at c22 m2MDisIn m5MDisIn; done)
                | (exfalso; simp (disch := omega) only [Int32.lt_iff_toInt_lt, Int32.le_iff_toInt_le, ← Int32.toInt_inj, Int32.reduceToInt, nI_toInt] at c22 m2MDisIn m5MDisIn; omega)
            · refine jr_ic rfl ?_
              refine jr_goto rfl ?_
              refine jr_zret rfl rfl rfl (Nat.zero_le _) (Nat.zero_le _) ?_
              refine jr_if_eq rfl (fun z => absurd z (by decide)) (fun _ => ?_)
              refine jr_iload rfl rfl ?_
              refine jr_ic rfl ?_
              refine jr_ic rfl ?_
              refine jr_cs3 (mc' := 0) (ms' := 0) rfl jm_MD_isIn_n jm_MD_isIn_f rfl rfl rfl rfl rfl (Nat.zero_le _) (Nat.zero_le _) ?_
              show jx_W (jm_MD_isIn, _, _, _, _, _, _) _ 0 0 0 [some _, some _, some _] [] _
              refine jr_iload rfl rfl ?_
              refine jr_iload rfl rfl ?_
              refine jr_icmp_lt rfl (fun m2MDisIn_2 => ?_) (fun m2MDisIn_2 => ?_)
              · refine jr_ic rfl ?_
                refine jr_zret rfl rfl rfl (Nat.zero_le _) (Nat.zero_le _) ?_
                refine jr_if_ne rfl (fun z => absurd (by decide) z) (fun _ => ?_)
                refine jr_ic rfl ?_
                refine jr_iret rfl rfl (Nat.zero_le _) (Nat.zero_le _) ?_
                first
                  | exact ⟨rfl, hRel0⟩
                  | (exfalso; omega)
                  | (exfalso; simp (disch := omega) only [Int32.lt_iff_toInt_lt, Int32.le_iff_toInt_le, ← Int32.toInt_inj, Int32.reduceToInt, nI_toInt] at c22 m2MDisIn m5MDisIn m2MDisIn_2; done)
                  | (exfalso; simp (disch := omega) only [Int32.lt_iff_toInt_lt, Int32.le_iff_toInt_le, ← Int32.toInt_inj, Int32.reduceToInt, nI_toInt] at c22 m2MDisIn m5MDisIn m2MDisIn_2; omega)
              · refine jr_iload rfl rfl ?_
                refine jr_iload rfl rfl ?_
                refine jr_icmp_gt rfl (fun m5MDisIn_2 => ?_) (fun m5MDisIn_2 => ?_)
                · refine jr_ic rfl ?_
                  refine jr_zret rfl rfl rfl (Nat.zero_le _) (Nat.zero_le _) ?_
                  refine jr_if_ne rfl (fun z => absurd (by decide) z) (fun _ => ?_)
                  refine jr_ic rfl ?_
                  refine jr_iret rfl rfl (Nat.zero_le _) (Nat.zero_le _) ?_
                  first
                    | exact ⟨rfl, hRel0⟩
                    | (exfalso; omega)
                    | (exfalso; simp (disch := omega) only [Int32.lt_iff_toInt_lt, Int32.le_iff_toInt_le, ← Int32.toInt_inj, Int32.reduceToInt, nI_toInt] at c22 m2MDisIn m5MDisIn m2MDisIn_2 m5MDisIn_2; done)
                    | (exfalso; simp (disch := omega) only [Int32.lt_iff_toInt_lt, Int32.le_iff_toInt_le, ← Int32.toInt_inj, Int32.reduceToInt, nI_toInt] at c22 m2MDisIn m5MDisIn m2MDisIn_2 m5MDisIn_2; omega)
                · refine jr_ic rfl ?_
                  refine jr_goto rfl ?_
                  refine jr_zret rfl rfl rfl (Nat.zero_le _) (Nat.zero_le _) ?_
                  refine jr_if_ne rfl (fun _ => ?_) (fun z => absurd z (by decide))
                  refine jr_ic rfl ?_
                  refine jr_ist3 rfl rfl ?_
                  refine jr_iload rfl rfl ?_
                  refine jr_ist4 rfl rfl ?_
                  first
                    | (exfalso; omega)
                    | (exfalso; simp (disch := omega) only [Int32.lt_iff_toInt_lt, Int32.le_iff_toInt_le, ← Int32.toInt_inj, Int32.reduceToInt, nI_toInt] at c22 m2MDisIn m5MDisIn m2MDisIn_2 m5MDisIn_2; done)
                    | (exfalso; simp (disch := omega) only [Int32.lt_iff_toInt_lt, Int32.le_iff_toInt_le, ← Int32.toInt_inj, Int32.reduceToInt, nI_toInt] at c22 m2MDisIn m5MDisIn m2MDisIn_2 m5MDisIn_2; omega)
        · skip
          refine ⟨fun c22 => ?_, fun n22_3 => ?_⟩
          · refine jr_aload rfl rfl ?_
            refine jr_getM rfl rfl rfl rfl hto ?_
            refine jr_aload rfl rfl ?_
            refine jr_getM rfl rfl rfl rfl hto ?_
            refine jr_getZ rfl rfl ?_
            rw [eb1]
            refine jr_if_eq rfl (fun c44 => ?_) (fun c44 => ?_)
            · refine jr_iload rfl rfl ?_
              refine jr_cv1 (mc' := 0) (ms' := 0) rfl jm_Rep_weekDay_n jm_Rep_weekDay_f rfl rfl rfl rfl rfl rfl rfl (Nat.zero_le _) (Nat.zero_le _) ?_
              show jx_W (jm_Rep_weekDay, _, _, _, _, _, _) _ 0 0 0 [some _, some _] [] _
              refine jr_aload rfl rfl ?_
              refine jr_getI rfl rfl ?_
              rw [ek1]
              refine jr_if_le rfl (fun z => absurd z (nI_nle (by omega) (by omega))) (fun _ => ?_)
              refine jr_iload rfl rfl ?_
              refine jr_aload rfl rfl ?_
              refine jr_getI rfl rfl ?_
              rw [ek1]
              refine jr_cs2 (mc' := 0) (ms' := 0) rfl jm_Math_floorMod_n jm_Math_floorMod_f rfl rfl rfl rfl rfl (Nat.zero_le _) (Nat.zero_le _) ?_
              refine ev_floorModN (by omega) hk2 (by omega) ?_
              refine jr_goto rfl ?_
              refine jr_iret rfl rfl (Nat.zero_le _) (Nat.zero_le _) ?_
              refine jr_iret rfl rfl (Nat.zero_le _) (Nat.zero_le _) ?_
              show jx_W (jm_MD_date, d + 40, 0, 0, false, 1, _) _ 0 0 0 [some _, some _, some _, none, none] [] _
              refine jr_iload rfl rfl ?_
              refine jr_ic rfl ?_
              refine jr_aload rfl rfl ?_
              refine jr_getR rfl rfl rfl rfl (Or.inl rfl) ?_
              refine jr_ic rfl ?_
              refine jr_iald (len := 337) rfl rfl (show _ = nI 1 from rfl) (by decide) ?_
              refine jr_ic rfl ?_
              refine jr_isub rfl ?_
              refine jr_cs3 (mc' := 0) (ms' := 0) rfl jm_MD_isIn_n jm_MD_isIn_f rfl rfl rfl rfl rfl (Nat.zero_le _) (Nat.zero_le _) ?_
              show jx_W (jm_MD_isIn, _, _, _, _, _, _) _ 0 0 0 [some _, some _, some _] [] _
              refine jr_iload rfl rfl ?_
              refine jr_iload rfl rfl ?_
              refine jr_icmp_lt rfl (fun m2MDisIn => ?_) (fun m2MDisIn => ?_)
              · refine jr_ic rfl ?_
                refine jr_zret rfl rfl rfl (Nat.zero_le _) (Nat.zero_le _) ?_
                refine jr_if_eq rfl (fun _ => ?_) (fun z => absurd (by decide) z)
                refine jr_ic rfl ?_
                refine jr_iret rfl rfl (Nat.zero_le _) (Nat.zero_le _) ?_
                first
                  | exact ⟨rfl, hRel0⟩
                  | (exfalso; omega)
                  | (exfalso; simp (disch := omega) only [Int32.lt_iff_toInt_lt, Int32.le_iff_toInt_le, ← Int32.toInt_inj, Int32.reduceToInt, nI_toInt] at c22 c44 m2MDisIn; done)
                  | (exfalso; simp (disch := omega) only [Int32.lt_iff_toInt_lt, Int32.le_iff_toInt_le, ← Int32.toInt_inj, Int32.reduceToInt, nI_toInt] at c22 c44 m2MDisIn; omega)
              · refine jr_iload rfl rfl ?_
                refine jr_iload rfl rfl ?_
                refine jr_icmp_gt rfl (fun m5MDisIn => ?_) (fun m5MDisIn => ?_)
                · refine jr_ic rfl ?_
                  refine jr_zret rfl rfl rfl (Nat.zero_le _) (Nat.zero_le _) ?_
                  refine jr_if_eq rfl (fun _ => ?_) (fun z => absurd (by decide) z)
                  refine jr_ic rfl ?_
                  refine jr_iret rfl rfl (Nat.zero_le _) (Nat.zero_le _) ?_
                  first
                    | exact ⟨rfl, hRel0⟩
                    | (exfalso; omega)
                    | (exfalso; simp (disch := omega) only [Int32.lt_iff_toInt_lt, Int32.le_iff_toInt_le, ← Int32.toInt_inj, Int32.reduceToInt, nI_toInt] at c22 c44 m2MDisIn m5MDisIn; done)
                    | (exfalso; simp (disch := omega) only [Int32.lt_iff_toInt_lt, Int32.le_iff_toInt_le, ← Int32.toInt_inj, Int32.reduceToInt, nI_toInt] at c22 c44 m2MDisIn m5MDisIn; omega)
                · refine jr_ic rfl ?_
                  refine jr_goto rfl ?_
                  refine jr_zret rfl rfl rfl (Nat.zero_le _) (Nat.zero_le _) ?_
                  refine jr_if_eq rfl (fun z => absurd z (by decide)) (fun _ => ?_)
                  refine jr_iload rfl rfl ?_
                  refine jr_ic rfl ?_
                  refine jr_ic rfl ?_
                  refine jr_cs3 (mc' := 0) (ms' := 0) rfl jm_MD_isIn_n jm_MD_isIn_f rfl rfl rfl rfl rfl (Nat.zero_le _) (Nat.zero_le _) ?_
                  show jx_W (jm_MD_isIn, _, _, _, _, _, _) _ 0 0 0 [some _, some _, some _] [] _
                  refine jr_iload rfl rfl ?_
                  refine jr_iload rfl rfl ?_
                  refine jr_icmp_lt rfl (fun m2MDisIn_2 => ?_) (fun m2MDisIn_2 => ?_)
                  · refine jr_ic rfl ?_
                    refine jr_zret rfl rfl rfl (Nat.zero_le _) (Nat.zero_le _) ?_
                    refine jr_if_ne rfl (fun z => absurd (by decide) z) (fun _ => ?_)
                    refine jr_ic rfl ?_
                    refine jr_iret rfl rfl (Nat.zero_le _) (Nat.zero_le _) ?_
                    first
                      | exact ⟨rfl, hRel0⟩
                      | (exfalso; omega)
                      | (exfalso; simp (disch := omega) only [Int32.lt_iff_toInt_lt, Int32.le_iff_toInt_le, ← Int32.toInt_inj, Int32.reduceToInt, nI_toInt] at c22 c44 m2MDisIn m5MDisIn m2MDisIn_2; done)
                      | (exfalso; simp (disch := omega) only [Int32.lt_iff_toInt_lt, Int32.le_iff_toInt_le, ← Int32.toInt_inj, Int32.reduceToInt, nI_toInt] at c22 c44 m2MDisIn m5MDisIn m2MDisIn_2; omega)
                  · refine jr_iload rfl rfl ?_
                    refine jr_iload rfl rfl ?_
                    refine jr_icmp_gt rfl (fun m5MDisIn_2 => ?_) (fun m5MDisIn_2 => ?_)
                    · refine jr_ic rfl ?_
                      refine jr_zret rfl rfl rfl (Nat.zero_le _) (Nat.zero_le _) ?_
                      refine jr_if_ne rfl (fun z => absurd (by decide) z) (fun _ => ?_)
                      refine jr_ic rfl ?_
                      refine jr_iret rfl rfl (Nat.zero_le _) (Nat.zero_le _) ?_
                      first
                        | exact ⟨rfl, hRel0⟩
                        | (exfalso; omega)
                        | (exfalso; simp (disch := omega) only [Int32.lt_iff_toInt_lt, Int32.le_iff_toInt_le, ← Int32.toInt_inj, Int32.reduceToInt, nI_toInt] at c22 c44 m2MDisIn m5MDisIn m2MDisIn_2 m5MDisIn_2; done)
                        | (exfalso; simp (disch := omega) only [Int32.lt_iff_toInt_lt, Int32.le_iff_toInt_le, ← Int32.toInt_inj, Int32.reduceToInt, nI_toInt] at c22 c44 m2MDisIn m5MDisIn m2MDisIn_2 m5MDisIn_2; omega)
                    · refine jr_ic rfl ?_
                      refine jr_goto rfl ?_
                      refine jr_zret rfl rfl rfl (Nat.zero_le _) (Nat.zero_le _) ?_
                      refine jr_if_ne rfl (fun _ => ?_) (fun z => absurd z (by decide))
                      refine jr_ic rfl ?_
                      refine jr_ist3 rfl rfl ?_
                      refine jr_iload rfl rfl ?_
                      refine jr_ist4 rfl rfl ?_
                      first
                        | (exfalso; omega)
                        | (exfalso; simp (disch := omega) only [Int32.lt_iff_toInt_lt, Int32.le_iff_toInt_le, ← Int32.toInt_inj, Int32.reduceToInt, nI_toInt] at c22 c44 m2MDisIn m5MDisIn m2MDisIn_2 m5MDisIn_2; done)
                        | (exfalso; simp (disch := omega) only [Int32.lt_iff_toInt_lt, Int32.le_iff_toInt_le, ← Int32.toInt_inj, Int32.reduceToInt, nI_toInt] at c22 c44 m2MDisIn m5MDisIn m2MDisIn_2 m5MDisIn_2; omega)
            · refine jr_iload rfl rfl ?_
              refine jr_goto rfl ?_
              refine jr_cv1 (mc' := 0) (ms' := 0) rfl jm_Rep_weekDay_n jm_Rep_weekDay_f rfl rfl rfl rfl rfl rfl rfl (Nat.zero_le _) (Nat.zero_le _) ?_
              show jx_W (jm_Rep_weekDay, _, _, _, _, _, _) _ 0 0 0 [some _, some _] [] _
              refine jr_aload rfl rfl ?_
              refine jr_getI rfl rfl ?_
              rw [ek1]
              refine jr_if_le rfl (fun z => absurd z (nI_nle (by omega) (by omega))) (fun _ => ?_)
              refine jr_iload rfl rfl ?_
              refine jr_aload rfl rfl ?_
              refine jr_getI rfl rfl ?_
              rw [ek1]
              refine jr_cs2 (mc' := 0) (ms' := 0) rfl jm_Math_floorMod_n jm_Math_floorMod_f rfl rfl rfl rfl rfl (Nat.zero_le _) (Nat.zero_le _) ?_
              refine ev_floorModN (by omega) hk2 (by omega) ?_
              refine jr_goto rfl ?_
              refine jr_iret rfl rfl (Nat.zero_le _) (Nat.zero_le _) ?_
              refine jr_iret rfl rfl (Nat.zero_le _) (Nat.zero_le _) ?_
              show jx_W (jm_MD_date, d + 40, 0, 0, false, 1, _) _ 0 0 0 [some _, some _, some _, none, none] [] _
              refine jr_iload rfl rfl ?_
              refine jr_ic rfl ?_
              refine jr_aload rfl rfl ?_
              refine jr_getR rfl rfl rfl rfl (Or.inl rfl) ?_
              refine jr_ic rfl ?_
              refine jr_iald (len := 337) rfl rfl (show _ = nI 1 from rfl) (by decide) ?_
              refine jr_ic rfl ?_
              refine jr_isub rfl ?_
              refine jr_cs3 (mc' := 0) (ms' := 0) rfl jm_MD_isIn_n jm_MD_isIn_f rfl rfl rfl rfl rfl (Nat.zero_le _) (Nat.zero_le _) ?_
              show jx_W (jm_MD_isIn, _, _, _, _, _, _) _ 0 0 0 [some _, some _, some _] [] _
              refine jr_iload rfl rfl ?_
              refine jr_iload rfl rfl ?_
              refine jr_icmp_lt rfl (fun m2MDisIn => ?_) (fun m2MDisIn => ?_)
              · refine jr_ic rfl ?_
                refine jr_zret rfl rfl rfl (Nat.zero_le _) (Nat.zero_le _) ?_
                refine jr_if_eq rfl (fun _ => ?_) (fun z => absurd (by decide) z)
                refine jr_ic rfl ?_
                refine jr_iret rfl rfl (Nat.zero_le _) (Nat.zero_le _) ?_
                first
                  | exact ⟨rfl, hRel0⟩
                  | (exfalso; omega)
                  | (exfalso; simp (disch := omega) only [Int32.lt_iff_toInt_lt, Int32.le_iff_toInt_le, ← Int32.toInt_inj, Int32.reduceToInt, nI_toInt] at c22 c44 m2MDisIn; done)
                  | (exfalso; simp (disch := omega) only [Int32.lt_iff_toInt_lt, Int32.le_iff_toInt_le, ← Int32.toInt_inj, Int32.reduceToInt, nI_toInt] at c22 c44 m2MDisIn; omega)
              · refine jr_iload rfl rfl ?_
                refine jr_iload rfl rfl ?_
                refine jr_icmp_gt rfl (fun m5MDisIn => ?_) (fun m5MDisIn => ?_)
                · refine jr_ic rfl ?_
                  refine jr_zret rfl rfl rfl (Nat.zero_le _) (Nat.zero_le _) ?_
                  refine jr_if_eq rfl (fun _ => ?_) (fun z => absurd (by decide) z)
                  refine jr_ic rfl ?_
                  refine jr_iret rfl rfl (Nat.zero_le _) (Nat.zero_le _) ?_
                  first
                    | exact ⟨rfl, hRel0⟩
                    | (exfalso; omega)
                    | (exfalso; simp (disch := omega) only [Int32.lt_iff_toInt_lt, Int32.le_iff_toInt_le, ← Int32.toInt_inj, Int32.reduceToInt, nI_toInt] at c22 c44 m2MDisIn m5MDisIn; done)
                    | (exfalso; simp (disch := omega) only [Int32.lt_iff_toInt_lt, Int32.le_iff_toInt_le, ← Int32.toInt_inj, Int32.reduceToInt, nI_toInt] at c22 c44 m2MDisIn m5MDisIn; omega)
                · refine jr_ic rfl ?_
                  refine jr_goto rfl ?_
                  refine jr_zret rfl rfl rfl (Nat.zero_le _) (Nat.zero_le _) ?_
                  refine jr_if_eq rfl (fun z => absurd z (by decide)) (fun _ => ?_)
                  refine jr_iload rfl rfl ?_
                  refine jr_ic rfl ?_
                  refine jr_ic rfl ?_
                  refine jr_cs3 (mc' := 0) (ms' := 0) rfl jm_MD_isIn_n jm_MD_isIn_f rfl rfl rfl rfl rfl (Nat.zero_le _) (Nat.zero_le _) ?_
                  show jx_W (jm_MD_isIn, _, _, _, _, _, _) _ 0 0 0 [some _, some _, some _] [] _
                  refine jr_iload rfl rfl ?_
                  refine jr_iload rfl rfl ?_
                  refine jr_icmp_lt rfl (fun m2MDisIn_2 => ?_) (fun m2MDisIn_2 => ?_)
                  · refine jr_ic rfl ?_
                    refine jr_zret rfl rfl rfl (Nat.zero_le _) (Nat.zero_le _) ?_
                    refine jr_if_ne rfl (fun z => absurd (by decide) z) (fun _ => ?_)
                    refine jr_ic rfl ?_
                    refine jr_iret rfl rfl (Nat.zero_le _) (Nat.zero_le _) ?_
                    first
                      | exact ⟨rfl, hRel0⟩
                      | (exfalso; omega)
                      | (exfalso; simp (disch := omega) only [Int32.lt_iff_toInt_lt, Int32.le_iff_toInt_le, ← Int32.toInt_inj, Int32.reduceToInt, nI_toInt] at c22 c44 m2MDisIn m5MDisIn m2MDisIn_2; done)
                      | (exfalso; simp (disch := omega) only [Int32.lt_iff_toInt_lt, Int32.le_iff_toInt_le, ← Int32.toInt_inj, Int32.reduceToInt, nI_toInt] at c22 c44 m2MDisIn m5MDisIn m2MDisIn_2; omega)
                  · refine jr_iload rfl rfl ?_
                    refine jr_iload rfl rfl ?_
                    refine jr_icmp_gt rfl (fun m5MDisIn_2 => ?_) (fun m5MDisIn_2 => ?_)
                    · refine jr_ic rfl ?_
                      refine jr_zret rfl rfl rfl (Nat.zero_le _) (Nat.zero_le _) ?_
                      refine jr_if_ne rfl (fun z => absurd (by decide) z) (fun _ => ?_)
                      refine jr_ic rfl ?_
                      refine jr_iret rfl rfl (Nat.zero_le _) (Nat.zero_le _) ?_
                      first
                        | exact ⟨rfl, hRel0⟩
                        | (exfalso; omega)
                        | (exfalso; simp (disch := omega) only [Int32.lt_iff_toInt_lt, Int32.le_iff_toInt_le, ← Int32.toInt_inj, Int32.reduceToInt, nI_toInt] at c22 c44 m2MDisIn m5MDisIn m2MDisIn_2 m5MDisIn_2; done)
                        | (exfalso; simp (disch := omega) only [Int32.lt_iff_toInt_lt, Int32.le_iff_toInt_le, ← Int32.toInt_inj, Int32.reduceToInt, nI_toInt] at c22 c44 m2MDisIn m5MDisIn m2MDisIn_2 m5MDisIn_2; omega)
                    · refine jr_ic rfl ?_
                      refine jr_goto rfl ?_
                      refine jr_zret rfl rfl rfl (Nat.zero_le _) (Nat.zero_le _) ?_
                      refine jr_if_ne rfl (fun _ => ?_) (fun z => absurd z (by decide))
                      refine jr_ic rfl ?_
                      refine jr_ist3 rfl rfl ?_
                      refine jr_iload rfl rfl ?_
                      refine jr_ist4 rfl rfl ?_
                      first
                        | (exfalso; omega)
                        | (exfalso; simp (disch := omega) only [Int32.lt_iff_toInt_lt, Int32.le_iff_toInt_le, ← Int32.toInt_inj, Int32.reduceToInt, nI_toInt] at c22 c44 m2MDisIn m5MDisIn m2MDisIn_2 m5MDisIn_2; done)
                        | (exfalso; simp (disch := omega) only [Int32.lt_iff_toInt_lt, Int32.le_iff_toInt_le, ← Int32.toInt_inj, Int32.reduceToInt, nI_toInt] at c22 c44 m2MDisIn m5MDisIn m2MDisIn_2 m5MDisIn_2; omega)
          · skip
            refine jr_ic rfl ?_
            refine jr_iret rfl rfl (Nat.zero_le _) (Nat.zero_le _) ?_
            show jx_W (jm_MD_date, d + 40, 0, 0, false, 1, _) _ 0 0 0 [some _, some _, some _, none, none] [] _
            refine jr_iload rfl rfl ?_
            refine jr_ic rfl ?_
            refine jr_aload rfl rfl ?_
            refine jr_getR rfl rfl rfl rfl (Or.inl rfl) ?_
            refine jr_ic rfl ?_
            refine jr_iald (len := 337) rfl rfl (show _ = nI 1 from rfl) (by decide) ?_
            refine jr_ic rfl ?_
            refine jr_isub rfl ?_
            refine jr_cs3 (mc' := 0) (ms' := 0) rfl jm_MD_isIn_n jm_MD_isIn_f rfl rfl rfl rfl rfl (Nat.zero_le _) (Nat.zero_le _) ?_
            show jx_W (jm_MD_isIn, _, _, _, _, _, _) _ 0 0 0 [some _, some _, some _] [] _
            refine jr_iload rfl rfl ?_
            refine jr_iload rfl rfl ?_
            refine jr_icmp_lt rfl (fun m2MDisIn => ?_) (fun m2MDisIn => ?_)
            · refine jr_ic rfl ?_
              refine jr_zret rfl rfl rfl (Nat.zero_le _) (Nat.zero_le _) ?_
              refine jr_if_eq rfl (fun _ => ?_) (fun z => absurd (by decide) z)
              refine jr_ic rfl ?_
              refine jr_iret rfl rfl (Nat.zero_le _) (Nat.zero_le _) ?_
              first
                | exact ⟨rfl, hRel0⟩
                | (exfalso; omega)
                | (exfalso; simp (disch := omega) only [Int32.lt_iff_toInt_lt, Int32.le_iff_toInt_le, ← Int32.toInt_inj, Int32.reduceToInt, nI_toInt] at m2MDisIn; done)
                | (exfalso; simp (disch := omega) only [Int32.lt_iff_toInt_lt, Int32.le_iff_toInt_le, ← Int32.toInt_inj, Int32.reduceToInt, nI_toInt] at m2MDisIn; omega)
            · refine jr_iload rfl rfl ?_
              refine jr_iload rfl rfl ?_
              refine jr_icmp_gt rfl (fun m5MDisIn => ?_) (fun m5MDisIn => ?_)
              · refine jr_ic rfl ?_
                refine jr_zret rfl rfl rfl (Nat.zero_le _) (Nat.zero_le _) ?_
                refine jr_if_eq rfl (fun _ => ?_) (fun z => absurd (by decide) z)
                refine jr_ic rfl ?_
                refine jr_iret rfl rfl (Nat.zero_le _) (Nat.zero_le _) ?_
                first
                  | exact ⟨rfl, hRel0⟩
                  | (exfalso; omega)
                  | (exfalso; simp (disch := omega) only [Int32.lt_iff_toInt_lt, Int32.le_iff_toInt_le, ← Int32.toInt_inj, Int32.reduceToInt, nI_toInt] at m2MDisIn m5MDisIn; done)
                  | (exfalso; simp (disch := omega) only [Int32.lt_iff_toInt_lt, Int32.le_iff_toInt_le, ← Int32.toInt_inj, Int32.reduceToInt, nI_toInt] at m2MDisIn m5MDisIn; omega)
              · refine jr_ic rfl ?_
                refine jr_goto rfl ?_
                refine jr_zret rfl rfl rfl (Nat.zero_le _) (Nat.zero_le _) ?_
                refine jr_if_eq rfl (fun z => absurd z (by decide)) (fun _ => ?_)
                refine jr_iload rfl rfl ?_
                refine jr_ic rfl ?_
                refine jr_ic rfl ?_
                refine jr_cs3 (mc' := 0) (ms' := 0) rfl jm_MD_isIn_n jm_MD_isIn_f rfl rfl rfl rfl rfl (Nat.zero_le _) (Nat.zero_le _) ?_
                show jx_W (jm_MD_isIn, _, _, _, _, _, _) _ 0 0 0 [some _, some _, some _] [] _
                refine jr_iload rfl rfl ?_
                refine jr_iload rfl rfl ?_
                refine jr_icmp_lt rfl (fun m2MDisIn_2 => ?_) (fun m2MDisIn_2 => ?_)
                · refine jr_ic rfl ?_
                  refine jr_zret rfl rfl rfl (Nat.zero_le _) (Nat.zero_le _) ?_
                  refine jr_if_ne rfl (fun z => absurd (by decide) z) (fun _ => ?_)
                  refine jr_ic rfl ?_
                  refine jr_iret rfl rfl (Nat.zero_le _) (Nat.zero_le _) ?_
                  first
                    | exact ⟨rfl, hRel0⟩
                    | (exfalso; omega)
                    | (exfalso; simp (disch := omega) only [Int32.lt_iff_toInt_lt, Int32.le_iff_toInt_le, ← Int32.toInt_inj, Int32.reduceToInt, nI_toInt] at m2MDisIn m5MDisIn m2MDisIn_2; done)
                    | (exfalso; simp (disch := omega) only [Int32.lt_iff_toInt_lt, Int32.le_iff_toInt_le, ← Int32.toInt_inj, Int32.reduceToInt, nI_toInt] at m2MDisIn m5MDisIn m2MDisIn_2; omega)
                · refine jr_iload rfl rfl ?_
                  refine jr_iload rfl rfl ?_
                  refine jr_icmp_gt rfl (fun m5MDisIn_2 => ?_) (fun m5MDisIn_2 => ?_)
                  · refine jr_ic rfl ?_
                    refine jr_zret rfl rfl rfl (Nat.zero_le _) (Nat.zero_le _) ?_
                    refine jr_if_ne rfl (fun z => absurd (by decide) z) (fun _ => ?_)
                    refine jr_ic rfl ?_
                    refine jr_iret rfl rfl (Nat.zero_le _) (Nat.zero_le _) ?_
                    first
                      | exact ⟨rfl, hRel0⟩
                      | (exfalso; omega)
                      | (exfalso; simp (disch := omega) only [Int32.lt_iff_toInt_lt, Int32.le_iff_toInt_le, ← Int32.toInt_inj, Int32.reduceToInt, nI_toInt] at m2MDisIn m5MDisIn m2MDisIn_2 m5MDisIn_2; done)
                      | (exfalso; simp (disch := omega) only [Int32.lt_iff_toInt_lt, Int32.le_iff_toInt_le, ← Int32.toInt_inj, Int32.reduceToInt, nI_toInt] at m2MDisIn m5MDisIn m2MDisIn_2 m5MDisIn_2; omega)
                  · refine jr_ic rfl ?_
                    refine jr_goto rfl ?_
                    refine jr_zret rfl rfl rfl (Nat.zero_le _) (Nat.zero_le _) ?_
                    refine jr_if_ne rfl (fun _ => ?_) (fun z => absurd z (by decide))
                    refine jr_ic rfl ?_
                    refine jr_ist3 rfl rfl ?_
                    refine jr_iload rfl rfl ?_
                    refine jr_ist4 rfl rfl ?_
                    first
                      | (exfalso; omega)
                      | (exfalso; simp (disch := omega) only [Int32.lt_iff_toInt_lt, Int32.le_iff_toInt_le, ← Int32.toInt_inj, Int32.reduceToInt, nI_toInt] at m2MDisIn m5MDisIn m2MDisIn_2 m5MDisIn_2; done)
                      | (exfalso; simp (disch := omega) only [Int32.lt_iff_toInt_lt, Int32.le_iff_toInt_le, ← Int32.toInt_inj, Int32.reduceToInt, nI_toInt] at m2MDisIn m5MDisIn m2MDisIn_2 m5MDisIn_2; omega)
  · show jx_W (jm_JV_date, d + 40, 0, 0, false, 0, _) _ 0 0 0 [some (jv_r 10 0), some (jv_i x), some (jv_i y), none, none] [] _
    refine jr_aload rfl rfl ?_
    refine jr_getR rfl rfl rfl rfl (Or.inl rfl) ?_
    refine jr_iload rfl rfl ?_
    refine jr_cv1 (mc' := 0) (ms' := 0) rfl jm_Cal_monthHolding_n jm_Cal_monthHolding_f rfl rfl rfl rfl rfl rfl rfl (Nat.zero_le _) (Nat.zero_le _) ?_
    refine ev_hold0 g2 hl hL2 (hA.2.1.trans g1) hn ?_
    refine jr_ist3 rfl rfl ?_
    refine jr_iload rfl rfl ?_
    refine jr_ic rfl ?_
    refine jr_icmp_eq rfl (fun _ => ?_) (fun z => absurd (by decide) z)
    refine jr_ic rfl ?_
    refine jr_iret rfl rfl (Nat.zero_le _) (Nat.zero_le _) ?_
    show jx_W (jm_MD_date, d + 40, 0, 0, false, 1, _) _ 0 0 0 [some _, some _, some _, none, none] [] _
    refine jr_iload rfl rfl ?_
    refine jr_ic rfl ?_
    refine jr_aload rfl rfl ?_
    refine jr_getR rfl rfl rfl rfl (Or.inl rfl) ?_
    refine jr_ic rfl ?_
    refine jr_iald (len := 337) rfl rfl (show _ = nI 1 from rfl) (by decide) ?_
    refine jr_ic rfl ?_
    refine jr_isub rfl ?_
    refine jr_cs3 (mc' := 0) (ms' := 0) rfl jm_MD_isIn_n jm_MD_isIn_f rfl rfl rfl rfl rfl (Nat.zero_le _) (Nat.zero_le _) ?_
    show jx_W (jm_MD_isIn, _, _, _, _, _, _) _ 0 0 0 [some _, some _, some _] [] _
    refine jr_iload rfl rfl ?_
    refine jr_iload rfl rfl ?_
    refine jr_icmp_lt rfl (fun m2MDisIn => ?_) (fun m2MDisIn => ?_)
    · refine jr_ic rfl ?_
      refine jr_zret rfl rfl rfl (Nat.zero_le _) (Nat.zero_le _) ?_
      refine jr_if_eq rfl (fun _ => ?_) (fun z => absurd (by decide) z)
      refine jr_ic rfl ?_
      refine jr_iret rfl rfl (Nat.zero_le _) (Nat.zero_le _) ?_
      first
        | exact ⟨rfl, hRel0⟩
        | (exfalso; omega)
        | (exfalso; simp (disch := omega) only [Int32.lt_iff_toInt_lt, Int32.le_iff_toInt_le, ← Int32.toInt_inj, Int32.reduceToInt, nI_toInt] at m2MDisIn; done)
        | (exfalso; simp (disch := omega) only [Int32.lt_iff_toInt_lt, Int32.le_iff_toInt_le, ← Int32.toInt_inj, Int32.reduceToInt, nI_toInt] at m2MDisIn; omega)
    · refine jr_iload rfl rfl ?_
      refine jr_iload rfl rfl ?_
      refine jr_icmp_gt rfl (fun m5MDisIn => ?_) (fun m5MDisIn => ?_)
      · refine jr_ic rfl ?_
        refine jr_zret rfl rfl rfl (Nat.zero_le _) (Nat.zero_le _) ?_
        refine jr_if_eq rfl (fun _ => ?_) (fun z => absurd (by decide) z)
        refine jr_ic rfl ?_
        refine jr_iret rfl rfl (Nat.zero_le _) (Nat.zero_le _) ?_
        first
          | exact ⟨rfl, hRel0⟩
          | (exfalso; omega)
          | (exfalso; simp (disch := omega) only [Int32.lt_iff_toInt_lt, Int32.le_iff_toInt_le, ← Int32.toInt_inj, Int32.reduceToInt, nI_toInt] at m2MDisIn m5MDisIn; done)
          | (exfalso; simp (disch := omega) only [Int32.lt_iff_toInt_lt, Int32.le_iff_toInt_le, ← Int32.toInt_inj, Int32.reduceToInt, nI_toInt] at m2MDisIn m5MDisIn; omega)
      · refine jr_ic rfl ?_
        refine jr_goto rfl ?_
        refine jr_zret rfl rfl rfl (Nat.zero_le _) (Nat.zero_le _) ?_
        refine jr_if_eq rfl (fun z => absurd z (by decide)) (fun _ => ?_)
        refine jr_iload rfl rfl ?_
        refine jr_ic rfl ?_
        refine jr_ic rfl ?_
        refine jr_cs3 (mc' := 0) (ms' := 0) rfl jm_MD_isIn_n jm_MD_isIn_f rfl rfl rfl rfl rfl (Nat.zero_le _) (Nat.zero_le _) ?_
        show jx_W (jm_MD_isIn, _, _, _, _, _, _) _ 0 0 0 [some _, some _, some _] [] _
        refine jr_iload rfl rfl ?_
        refine jr_iload rfl rfl ?_
        refine jr_icmp_lt rfl (fun m2MDisIn_2 => ?_) (fun m2MDisIn_2 => ?_)
        · refine jr_ic rfl ?_
          refine jr_zret rfl rfl rfl (Nat.zero_le _) (Nat.zero_le _) ?_
          refine jr_if_ne rfl (fun z => absurd (by decide) z) (fun _ => ?_)
          refine jr_ic rfl ?_
          refine jr_iret rfl rfl (Nat.zero_le _) (Nat.zero_le _) ?_
          first
            | exact ⟨rfl, hRel0⟩
            | (exfalso; omega)
            | (exfalso; simp (disch := omega) only [Int32.lt_iff_toInt_lt, Int32.le_iff_toInt_le, ← Int32.toInt_inj, Int32.reduceToInt, nI_toInt] at m2MDisIn m5MDisIn m2MDisIn_2; done)
            | (exfalso; simp (disch := omega) only [Int32.lt_iff_toInt_lt, Int32.le_iff_toInt_le, ← Int32.toInt_inj, Int32.reduceToInt, nI_toInt] at m2MDisIn m5MDisIn m2MDisIn_2; omega)
        · refine jr_iload rfl rfl ?_
          refine jr_iload rfl rfl ?_
          refine jr_icmp_gt rfl (fun m5MDisIn_2 => ?_) (fun m5MDisIn_2 => ?_)
          · refine jr_ic rfl ?_
            refine jr_zret rfl rfl rfl (Nat.zero_le _) (Nat.zero_le _) ?_
            refine jr_if_ne rfl (fun z => absurd (by decide) z) (fun _ => ?_)
            refine jr_ic rfl ?_
            refine jr_iret rfl rfl (Nat.zero_le _) (Nat.zero_le _) ?_
            first
              | exact ⟨rfl, hRel0⟩
              | (exfalso; omega)
              | (exfalso; simp (disch := omega) only [Int32.lt_iff_toInt_lt, Int32.le_iff_toInt_le, ← Int32.toInt_inj, Int32.reduceToInt, nI_toInt] at m2MDisIn m5MDisIn m2MDisIn_2 m5MDisIn_2; done)
              | (exfalso; simp (disch := omega) only [Int32.lt_iff_toInt_lt, Int32.le_iff_toInt_le, ← Int32.toInt_inj, Int32.reduceToInt, nI_toInt] at m2MDisIn m5MDisIn m2MDisIn_2 m5MDisIn_2; omega)
          · refine jr_ic rfl ?_
            refine jr_goto rfl ?_
            refine jr_zret rfl rfl rfl (Nat.zero_le _) (Nat.zero_le _) ?_
            refine jr_if_ne rfl (fun _ => ?_) (fun z => absurd z (by decide))
            refine jr_ic rfl ?_
            refine jr_ist3 rfl rfl ?_
            refine jr_iload rfl rfl ?_
            refine jr_ist4 rfl rfl ?_
            first
              | (exfalso; omega)
              | (exfalso; simp (disch := omega) only [Int32.lt_iff_toInt_lt, Int32.le_iff_toInt_le, ← Int32.toInt_inj, Int32.reduceToInt, nI_toInt] at m2MDisIn m5MDisIn m2MDisIn_2 m5MDisIn_2; done)
              | (exfalso; simp (disch := omega) only [Int32.lt_iff_toInt_lt, Int32.le_iff_toInt_le, ← Int32.toInt_inj, Int32.reduceToInt, nI_toInt] at m2MDisIn m5MDisIn m2MDisIn_2 m5MDisIn_2; omega)

theorem pd_date {d : Nat} {hc hm : jx_H} {x y : Int32} (hRel : jz_Rel hc hm) : jx_Ev jm_JV_date (d + 40) 0 0 false 0 [jv_r 10 0, jv_i x, jv_i y] hc (fun r hc' => jx_Ev jm_MD_date (d + 40) 0 0 false 1 [jv_r 11 0, jv_i x, jv_i y] hm (fun r' hm' => r = r' ∧ jz_Rel hc' hm')) := by
  by_cases h0 : y = 0
  · subst h0; exact pd_date_0 hRel
  by_cases h1 : y = 1
  · subst h1; exact pd_date_1 hRel
  by_cases h2 : y = 2
  · subst h2; exact pd_date_2 hRel
  by_cases h3 : y = 3
  · subst h3; exact pd_date_3 hRel
  exact pd_date_o hRel h0 h1 h2 h3
