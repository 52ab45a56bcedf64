set_option maxHeartbeats 800000 in
set_option maxRecDepth 100000 in
theorem lp_MD_image {d n0 : Nat} {Q : Option jx_V → jx_H → Prop} {h : jx_H} {x : Nat} (B : Nat → Int32) (j : Nat) (hx : x < 3) (hj : j ≤ 337) (w1 : ∀ q, q < j → B (337 * x + q) = jA h q) (w2 : ∀ q, q < 337 * x ∨ 337 * x + j ≤ q → B q = jh_I h 121 0 q)
  (kk : ∀ B : Nat → Int32, (∀ q, q < 337 → B (337 * x + q) = jA h q) → (∀ q, q < 337 * x ∨ 337 * x + 337 ≤ q → B q = jh_I h 121 0 q) → ∀ v : Option jx_V, jx_W (jm_MD_image, d, 0, 0, false, 1, n0) Q 0 0 26 [some (jv_r 11 0), some (jv_i (nI x)), v] [] (ju_I h 121 0 B))  : jx_W (jm_MD_image, d, 0, 0, false, 1, n0) Q 0 0 9 [some (jv_r 11 0), some (jv_i (nI x)), some (jv_i (nI j))] [] (ju_I h 121 0 B) := by
  refine jr_iload rfl rfl ?_
  refine jr_ic rfl ?_
  refine jr_icmp_ge rfl (fun c11 => ?_) (fun c11 => ?_)
  · have hx1 : 337 ≤ j := jn_le (show nI 337 ≤ nI j from c11) (by omega) (by omega)
    obtain rfl : j = 337 := by omega
    exact kk B w1 w2 _
  · have hl1 : j < 337 := jn_nle (show ¬ nI 337 ≤ nI j from c11) (by omega) (by omega)
    refine jr_aload rfl rfl ?_
    refine jr_getR rfl rfl rfl rfl (Or.inl rfl) ?_
    refine jr_ic rfl ?_
    refine jr_iload rfl rfl ?_
    refine jr_imul rfl ?_
    refine jr_iload rfl rfl ?_
    refine jr_iadd rfl ?_
    refine jr_aload rfl rfl ?_
    refine jr_getR rfl rfl rfl rfl (Or.inl rfl) ?_
    refine jr_iload rfl rfl ?_
    refine jr_iald (len := 337) rfl rfl rfl (by omega) ?_
    refine jr_iast (len := 1011) rfl rfl (jn_add (jn_mul (show _ = nI 337 from rfl) rfl) rfl) (by omega) ?_
    refine jr_iinc2 rfl rfl ?_
    refine jr_goto rfl ?_
    rw [jg_uu, jg_II, jn_S]
    refine lp_MD_image _ (j + 1) hx (by omega) (fun q hq => ?_) (fun q hq => ?_) kk
    · show upd B (337 * x + j) (jA h j) (337 * x + q) = _
      by_cases e : q = j
      · rw [e, jg_us]
      · rw [jg_un (by omega)]; exact w1 q (by omega)
    · show upd B (337 * x + j) _ q = _
      rw [jg_un (by omega)]; exact w2 q (by omega)
termination_by 337 - j
decreasing_by all_goals omega

set_option maxHeartbeats 800000 in
set_option maxRecDepth 100000 in
theorem lp_MD_back {d n0 : Nat} {Q : Option jx_V → jx_H → Prop} {h : jx_H} {x : Nat} (A : Nat → Int32) (j : Nat) (hx : x < 3) (hj : j ≤ 337) (w1 : ∀ q, q < j → A q = jh_I h 121 0 (337 * x + q)) (w2 : ∀ q, j ≤ q → A q = jA h q)
  (kk : ∀ A : Nat → Int32, (∀ q, q < 337 → A q = jh_I h 121 0 (337 * x + q)) → (∀ q, 337 ≤ q → A q = jA h q) → ∀ v : Option jx_V, jx_W (jm_MD_back, d, 0, 0, false, 1, n0) Q 0 0 31 [some (jv_r 11 0), some (jv_i (nI x)), v] [] (ju_I h 98 0 A))  : jx_W (jm_MD_back, d, 0, 0, false, 1, n0) Q 0 0 14 [some (jv_r 11 0), some (jv_i (nI x)), some (jv_i (nI j))] [] (ju_I h 98 0 A) := by
  refine jr_iload rfl rfl ?_
  refine jr_ic rfl ?_
  refine jr_icmp_ge rfl (fun c16 => ?_) (fun c16 => ?_)
  · have hx1 : 337 ≤ j := jn_le (show nI 337 ≤ nI j from c16) (by omega) (by omega)
    obtain rfl : j = 337 := by omega
    exact kk A w1 w2 _
  · have hl1 : j < 337 := jn_nle (show ¬ nI 337 ≤ nI j from c16) (by omega) (by omega)
    refine jr_aload rfl rfl ?_
    refine jr_getR rfl rfl rfl rfl (Or.inl rfl) ?_
    refine jr_iload rfl rfl ?_
    refine jr_aload rfl rfl ?_
    refine jr_getR rfl rfl rfl rfl (Or.inl rfl) ?_
    refine jr_ic rfl ?_
    refine jr_iload rfl rfl ?_
    refine jr_imul rfl ?_
    refine jr_iload rfl rfl ?_
    refine jr_iadd rfl ?_
    refine jr_iald (len := 1011) rfl rfl (jn_add (jn_mul (show _ = nI 337 from rfl) rfl) rfl) (by omega) ?_
    refine jr_iast (len := 337) rfl rfl rfl (by omega) ?_
    refine jr_iinc2 rfl rfl ?_
    refine jr_goto rfl ?_
    rw [jg_uu, jg_II, jn_S]
    refine lp_MD_back _ (j + 1) hx (by omega) (fun q hq => ?_) (fun q hq => ?_) kk
    · show upd A j (jh_I h 121 0 (337 * x + j)) q = _
      by_cases e : q = j
      · rw [e, jg_us]
      · rw [jg_un e]; exact w1 q (by omega)
    · show upd A j _ q = _
      rw [jg_un (by omega)]; exact w2 q (by omega)
termination_by 337 - j
decreasing_by all_goals omega

theorem eB_copy10 {d : Nat} {h : jx_H} {Q : Option jx_V → jx_H → Prop} {r w : Nat} {a : jw_A} (hA : jy_A h 0 r a) (hw0 : a 0 = nI w) (hw : w ≤ 511) (k : ∀ T' : Nat → Nat → Int32, jy_T (jy_np h r) T' a → (∀ j, j < w → T' 31 j = jh_I h 31 0 j) → Q none (jP (jK h 1 T' (r + 1)) (fun a => jh_I h a 0) (jh_M h 5 0 5))) : jx_Ev jm_Cal_copyOf (d + 2) 0 0 false 0 [jv_r 1 1, jv_r 1 0] h Q := by
  have e0 := ev_copy10 (d := d) (h := h) (r := r) (w := w) (S := fun a => jh_I h a 0) (kc := jh_M h 5 0 5) (m := jh_M h 1 1 0) (T := fun a => jh_I h a 1) (a := a) (Q := Q) hA hw0 hw k
  rw [jK_self, jP_self] at e0
  exact e0
theorem eB_copy01 {d : Nat} {h : jx_H} {Q : Option jx_V → jx_H → Prop} {r w : Nat} {a : jw_A} (hA : jy_A h 1 r a) (hw0 : a 0 = nI w) (hw : w ≤ 511) (k : ∀ T' : Nat → Nat → Int32, jy_T (jy_np h r) T' a → (∀ j, j < w → T' 31 j = jh_I h 31 1 j) → Q none (jP (jK h 0 T' (r + 1)) (fun a => jh_I h a 0) (jh_M h 5 0 5))) : jx_Ev jm_Cal_copyOf (d + 2) 0 0 false 0 [jv_r 1 0, jv_r 1 1] h Q := by
  have e0 := ev_copy01 (d := d) (h := h) (r := r) (w := w) (S := fun a => jh_I h a 0) (kc := jh_M h 5 0 5) (m := jh_M h 1 0 0) (T := fun a => jh_I h a 0) (a := a) (Q := Q) hA hw0 hw k
  rw [jK_self, jP_self] at e0
  exact e0
set_option maxHeartbeats 800000 in
set_option maxRecDepth 100000 in
theorem pd_image_0 {d : Nat} {hc hm : jx_H} (hRel : jz_Rel hc hm) : jx_Ev jm_JV_image (d + 40) 0 0 false 0 [jv_r 10 0, jv_i 0] hc (fun r hc' => jx_Ev jm_MD_image (d + 40) 0 0 false 1 [jv_r 11 0, jv_i 0] hm (fun r' hm' => r = r' ∧ jz_Rel hc' hm')) := by
  have hRel0 := hRel
  obtain ⟨b, r, ⟨hw, hG, hr2, hto, hsp, hR, hA, hL⟩, hTa, hFa, hLy, hTi, hLe, hBo, hAc, hWo⟩ := hRel
  have hb2 := hw.2.1
  obtain ⟨-, w, g1, g2, g3, g4⟩ := id hG
  have hC0 : jz_C hc hm b r := ⟨hw, hG, hr2, hto, hsp, hR, hA, hL⟩
  skip
  show jx_W (jm_JV_image, d + 40, 0, 0, false, 0, _) _ 0 0 0 [some (jv_r 10 0), some (jv_i 0)] [] _
  refine jr_iload rfl rfl ?_
  refine jr_if_lt rfl (fun z => absurd z (by decide)) (fun _ => ?_)
  refine jr_iload rfl rfl ?_
  refine jr_ic rfl ?_
  refine jr_icmp_lt rfl (fun _ => ?_) (fun z => absurd (by decide) z)
  refine jr_aload rfl rfl ?_
  refine jr_getR rfl rfl rfl rfl (Or.inl rfl) ?_
  refine jr_iload rfl rfl ?_
  refine jr_aald (so := 6) (len := 3) rfl rfl rfl rfl rfl (show _ = nI 0 from rfl) (by decide) (Or.inl rfl) ?_
  refine jr_aload rfl rfl ?_
  refine jr_getR rfl rfl rfl rfl (Or.inl rfl) ?_
  refine jr_cv1 (mc' := 0) (ms' := 0) rfl jm_Cal_copyOf_n jm_Cal_copyOf_f rfl rfl rfl rfl rfl rfl rfl (Nat.zero_le _) (Nat.zero_le _) ?_
  refine eB_copy10 hA g1 (by omega) (fun T1 hT1 hL1 => ?_)
  refine jr_aload rfl rfl ?_
  refine jr_getR rfl rfl rfl rfl (Or.inl rfl) ?_
  refine jr_iload rfl rfl ?_
  refine jr_ic rfl ?_
  refine jr_zast (len := 3) rfl rfl (show _ = nI 0 from rfl) (by decide) ?_
  refine jr_aload rfl rfl ?_
  refine jr_getR rfl rfl rfl rfl (Or.inl rfl) ?_
  refine jr_getI rfl rfl ?_
  refine jr_iret rfl rfl (Nat.zero_le _) (Nat.zero_le _) ?_
  show jx_W (jm_MD_image, d + 40, 0, 0, false, 1, _) _ 0 0 0 [some _, some _, none] [] _
  refine jr_iload rfl rfl ?_
  refine jr_ic rfl ?_
  refine jr_ic rfl ?_
  refine jr_cs3 (mc' := 0) (ms' := 0) rfl jm_MD_isIn_n jm_MD_isIn_f rfl rfl rfl rfl rfl (Nat.zero_le _) (Nat.zero_le _) ?_
  show jx_W (jm_MD_isIn, _, _, _, _, _, _) _ 0 0 0 [some _, some _, some _] [] _
  refine jr_iload rfl rfl ?_
  refine jr_iload rfl rfl ?_
  refine jr_icmp_lt rfl (fun z => absurd z (by decide)) (fun _ => ?_)
  refine jr_iload rfl rfl ?_
  refine jr_iload rfl rfl ?_
  refine jr_icmp_gt rfl (fun z => absurd z (by decide)) (fun _ => ?_)
  refine jr_ic rfl ?_
  refine jr_goto rfl ?_
  refine jr_zret rfl rfl rfl (Nat.zero_le _) (Nat.zero_le _) ?_
  refine jr_if_ne rfl (fun _ => ?_) (fun z => absurd z (by decide))
  refine jr_ic rfl ?_
  refine jr_ist2 rfl rfl ?_
  have e := lp_MD_image (d := d + 40) (n0 := jh_n hm) (x := 0) (Q := fun r' hm' => some (jv_i (jh_I (ju_I (jP (jK hc 1 T1 (r + 1)) (fun a => jh_I hc a 0) (jh_M hc 5 0 5)) 62 0 (upd (jh_I (jP (jK hc 1 T1 (r + 1)) (fun a => jh_I hc a 0) (jh_M hc 5 0 5)) 62 0) 0 (1 &&& 1))) 1 0 2)) = r' ∧ jz_Rel (ju_I (jP (jK hc 1 T1 (r + 1)) (fun a => jh_I hc a 0) (jh_M hc 5 0 5)) 62 0 (upd (jh_I (jP (jK hc 1 T1 (r + 1)) (fun a => jh_I hc a 0) (jh_M hc 5 0 5)) 62 0) 0 (1 &&& 1))) hm') (h := hm) (jh_I hm 121 0) 0 (by omega) (by omega) (fun q hq => absurd hq (by omega)) (fun _ _ => rfl) (fun B w1 w2 v => ?_)
  · rw [jg_self] at e
    exact e
  refine jr_aload rfl rfl ?_
  refine jr_getR rfl rfl rfl rfl (Or.inl rfl) ?_
  refine jr_iload rfl rfl ?_
  refine jr_ic rfl ?_
  refine jr_zast (len := 3) rfl rfl (show _ = nI 0 from rfl) (by decide) ?_
  refine jr_aload rfl rfl ?_
  refine jr_getR rfl rfl rfl rfl (Or.inl rfl) ?_
  refine jr_ic rfl ?_
  refine jr_iald (len := 337) rfl rfl (show _ = nI 0 from rfl) (by decide) ?_
  refine jr_iret rfl rfl (Nat.zero_le _) (Nat.zero_le _) ?_
  refine ⟨congrArg (fun z => some (jv_i z)) hA.2.1, b, r, hC0, hTa, hFa, hLy, hTi, hLe, fun i hi => ?_, jz_Ac_t (hc := hc) (hm := hm) (by rw [jN_u _ _ _ _ rfl, jN_u _ _ _ _ rfl]) ⟨rfl, rfl⟩ ⟨rfl, rfl⟩ ⟨rfl, rfl, rfl, rfl⟩ ⟨rfl, rfl⟩ hAc, hWo⟩
  obtain rfl | rfl | rfl : i = 0 ∨ i = 1 ∨ i = 2 := by omega
  · skip
    refine ⟨rfl, Or.inr ⟨rfl, jA hm, hG, ⟨rfl, hT1.1, hT1.2.1, hT1.2.2.1, hT1.2.2.2⟩, fun j hj => ?_, fun k hk => w1 k hk, fun _ _ => rfl⟩⟩
    exact (hL1 j (Nat.lt_of_lt_of_eq hj (jn_1 g1 (by omega)))).trans (hL j hj)
  · skip
    obtain ⟨b1, b2⟩ := hBo 1 (by omega)
    refine ⟨b1, b2.elim Or.inl (fun b3 => Or.inr ⟨b3.1, ?_⟩)⟩
    obtain ⟨β, p1, p2, p3, p4, p5⟩ := b3.2
    exact ⟨β, p1, p2, p3, fun k hk => (w2 _ (by omega)).trans (p4 k hk), p5⟩
  · skip
    obtain ⟨b1, b2⟩ := hBo 2 (by omega)
    refine ⟨b1, b2.elim Or.inl (fun b3 => Or.inr ⟨b3.1, ?_⟩)⟩
    obtain ⟨β, p1, p2, p3, p4, p5⟩ := b3.2
    exact ⟨β, p1, p2, p3, fun k hk => (w2 _ (by omega)).trans (p4 k hk), p5⟩

set_option maxHeartbeats 800000 in
set_option maxRecDepth 100000 in
theorem pd_back_0 {d : Nat} {hc hm : jx_H} (hRel : jz_Rel hc hm) : jx_Ev jm_JV_back (d + 40) 0 0 false 0 [jv_r 10 0, jv_i 0] hc (fun r hc' => jx_Ev jm_MD_back (d + 40) 0 0 false 1 [jv_r 11 0, jv_i 0] hm (fun r' hm' => r = r' ∧ jz_Rel hc' hm')) := by
  have hRel0 := hRel
  obtain ⟨b, r, ⟨hw, hG, hr2, hto, hsp, hR, hA, hL⟩, hTa, hFa, hLy, hTi, hLe, hBo, hAc, hWo⟩ := hRel
  have hb2 := hw.2.1
  obtain ⟨-, w, g1, g2, g3, g4⟩ := id hG
  have hC0 : jz_C hc hm b r := ⟨hw, hG, hr2, hto, hsp, hR, hA, hL⟩
  obtain ⟨b1, b2⟩ := hBo 0 (by omega)
  rcases b2 with b2 | ⟨b2, β, p1, p2, p3, p4, p5⟩
  · show jx_W (jm_JV_back, d + 40, 0, 0, false, 0, _) _ 0 0 0 [some (jv_r 10 0), some (jv_i 0)] [] _
    refine jr_iload rfl rfl ?_
    refine jr_if_lt rfl (fun z => absurd z (by decide)) (fun _ => ?_)
    refine jr_iload rfl rfl ?_
    refine jr_ic rfl ?_
    refine jr_icmp_ge rfl (fun z => absurd z (by decide)) (fun _ => ?_)
    refine jr_aload rfl rfl ?_
    refine jr_getR rfl rfl rfl rfl (Or.inl rfl) ?_
    refine jr_iload rfl rfl ?_
    refine jr_zald (len := 3) rfl rfl (show _ = nI 0 from rfl) (by decide) ?_
    refine jr_if_ne rfl (fun z => absurd (b1.trans b2) z) (fun _ => ?_)
    refine jr_ic rfl ?_
    refine jr_iret rfl rfl (Nat.zero_le _) (Nat.zero_le _) ?_
    show jx_W (jm_MD_back, d + 40, 0, 0, false, 1, _) _ 0 0 0 [some _, some _, none] [] _
    refine jr_iload rfl rfl ?_
    refine jr_ic rfl ?_
    refine jr_ic rfl ?_
    refine jr_cs3 (mc' := 0) (ms' := 0) rfl jm_MD_isIn_n jm_MD_isIn_f rfl rfl rfl rfl rfl (Nat.zero_le _) (Nat.zero_le _) ?_
    show jx_W (jm_MD_isIn, _, _, _, _, _, _) _ 0 0 0 [some _, some _, some _] [] _
    refine jr_iload rfl rfl ?_
    refine jr_iload rfl rfl ?_
    refine jr_icmp_lt rfl (fun z => absurd z (by decide)) (fun _ => ?_)
    refine jr_iload rfl rfl ?_
    refine jr_iload rfl rfl ?_
    refine jr_icmp_gt rfl (fun z => absurd z (by decide)) (fun _ => ?_)
    refine jr_ic rfl ?_
    refine jr_goto rfl ?_
    refine jr_zret rfl rfl rfl (Nat.zero_le _) (Nat.zero_le _) ?_
    refine jr_if_eq rfl (fun z => absurd z (by decide)) (fun _ => ?_)
    refine jr_aload rfl rfl ?_
    refine jr_getR rfl rfl rfl rfl (Or.inl rfl) ?_
    refine jr_iload rfl rfl ?_
    refine jr_zald (len := 3) rfl rfl (show _ = nI 0 from rfl) (by decide) ?_
    refine jr_if_ne rfl (fun z => absurd b2 z) (fun _ => ?_)
    refine jr_ic rfl ?_
    refine jr_iret rfl rfl (Nat.zero_le _) (Nat.zero_le _) ?_
    exact ⟨rfl, hRel0⟩
  · obtain ⟨u, u1, u2, -, -⟩ := id p1.2
    have hz : ¬ (1 : Int32) = 0 := by decide
    show jx_W (jm_JV_back, d + 40, 0, 0, false, 0, _) _ 0 0 0 [some (jv_r 10 0), some (jv_i 0)] [] _
    refine jr_iload rfl rfl ?_
    refine jr_if_lt rfl (fun z => absurd z (by decide)) (fun _ => ?_)
    refine jr_iload rfl rfl ?_
    refine jr_ic rfl ?_
    refine jr_icmp_ge rfl (fun z => absurd z (by decide)) (fun _ => ?_)
    refine jr_aload rfl rfl ?_
    refine jr_getR rfl rfl rfl rfl (Or.inl rfl) ?_
    refine jr_iload rfl rfl ?_
    refine jr_zald (len := 3) rfl rfl (show _ = nI 0 from rfl) (by decide) ?_
    refine jr_if_ne rfl (fun _ => ?_) (fun z => absurd z (fun z => hz ((b1.trans b2).symm.trans z)))
    refine jr_aload rfl rfl ?_
    refine jr_getR rfl rfl rfl rfl (Or.inl rfl) ?_
    refine jr_aload rfl rfl ?_
    refine jr_getR rfl rfl rfl rfl (Or.inl rfl) ?_
    refine jr_iload rfl rfl ?_
    refine jr_aald (so := 6) (len := 3) rfl rfl rfl rfl rfl (show _ = nI 0 from rfl) (by decide) (Or.inl rfl) ?_
    refine jr_cv1 (mc' := 0) (ms' := 0) rfl jm_Cal_copyOf_n jm_Cal_copyOf_f rfl rfl rfl rfl rfl rfl rfl (Nat.zero_le _) (Nat.zero_le _) ?_
    refine eB_copy01 p2 u1 (by omega) (fun T1 hT1 hL1 => ?_)
    refine jr_aload rfl rfl ?_
    refine jr_getR rfl rfl rfl rfl (Or.inl rfl) ?_
    refine jr_cv0 (mc' := 0) (ms' := 0) rfl jm_Acts_forgetAll_n jm_Acts_forgetAll_f rfl rfl rfl rfl rfl rfl rfl (Nat.zero_le _) (Nat.zero_le _) ?_
    show jx_W (jm_Acts_forgetAll, _, _, _, _, _, _) _ 0 0 0 [some _] [] _
    refine jr_aload rfl rfl ?_
    refine jr_ic rfl ?_
    refine jr_putI rfl rfl ?_
    refine jr_aload rfl rfl ?_
    refine jr_ic rfl ?_
    refine jr_putI rfl rfl ?_
    refine jr_vret rfl rfl (Nat.zero_le _) (Nat.zero_le _) ?_
    refine jr_aload rfl rfl ?_
    refine jr_getR rfl rfl rfl rfl (Or.inl rfl) ?_
    refine jr_getI rfl rfl ?_
    refine jr_iret rfl rfl (Nat.zero_le _) (Nat.zero_le _) ?_
    show jx_W (jm_MD_back, d + 40, 0, 0, false, 1, _) _ 0 0 0 [some _, some _, none] [] _
    refine jr_iload rfl rfl ?_
    refine jr_ic rfl ?_
    refine jr_ic rfl ?_
    refine jr_cs3 (mc' := 0) (ms' := 0) rfl jm_MD_isIn_n jm_MD_isIn_f rfl rfl rfl rfl rfl (Nat.zero_le _) (Nat.zero_le _) ?_
    show jx_W (jm_MD_isIn, _, _, _, _, _, _) _ 0 0 0 [some _, some _, some _] [] _
    refine jr_iload rfl rfl ?_
    refine jr_iload rfl rfl ?_
    refine jr_icmp_lt rfl (fun z => absurd z (by decide)) (fun _ => ?_)
    refine jr_iload rfl rfl ?_
    refine jr_iload rfl rfl ?_
    refine jr_icmp_gt rfl (fun z => absurd z (by decide)) (fun _ => ?_)
    refine jr_ic rfl ?_
    refine jr_goto rfl ?_
    refine jr_zret rfl rfl rfl (Nat.zero_le _) (Nat.zero_le _) ?_
    refine jr_if_eq rfl (fun z => absurd z (by decide)) (fun _ => ?_)
    refine jr_aload rfl rfl ?_
    refine jr_getR rfl rfl rfl rfl (Or.inl rfl) ?_
    refine jr_iload rfl rfl ?_
    refine jr_zald (len := 3) rfl rfl (show _ = nI 0 from rfl) (by decide) ?_
    refine jr_if_ne rfl (fun _ => ?_) (fun z => absurd z (fun z => hz (b2.symm.trans z)))
    refine jr_ic rfl ?_
    refine jr_ist2 rfl rfl ?_
    have e := lp_MD_back (d := d + 40) (n0 := jh_n hm) (x := 0) (Q := fun r' hm' => some (jv_i (jh_I (ju_I (ju_I (jP (jK hc 0 T1 (r + 1)) (fun a => jh_I hc a 0) (jh_M hc 5 0 5)) 0 0 (upd (jh_I (jP (jK hc 0 T1 (r + 1)) (fun a => jh_I hc a 0) (jh_M hc 5 0 5)) 0 0) 4 0)) 0 0 (upd (jh_I (ju_I (jP (jK hc 0 T1 (r + 1)) (fun a => jh_I hc a 0) (jh_M hc 5 0 5)) 0 0 (upd (jh_I (jP (jK hc 0 T1 (r + 1)) (fun a => jh_I hc a 0) (jh_M hc 5 0 5)) 0 0) 4 0)) 0 0) 5 0)) 1 0 2)) = r' ∧ jz_Rel (ju_I (ju_I (jP (jK hc 0 T1 (r + 1)) (fun a => jh_I hc a 0) (jh_M hc 5 0 5)) 0 0 (upd (jh_I (jP (jK hc 0 T1 (r + 1)) (fun a => jh_I hc a 0) (jh_M hc 5 0 5)) 0 0) 4 0)) 0 0 (upd (jh_I (ju_I (jP (jK hc 0 T1 (r + 1)) (fun a => jh_I hc a 0) (jh_M hc 5 0 5)) 0 0 (upd (jh_I (jP (jK hc 0 T1 (r + 1)) (fun a => jh_I hc a 0) (jh_M hc 5 0 5)) 0 0) 4 0)) 0 0) 5 0)) hm') (h := hm) (jA hm) 0 (by omega) (by omega) (fun q hq => absurd hq (by omega)) (fun _ _ => rfl) (fun A w1 w2 v => ?_)
    · rw [show ju_I hm 98 0 (jA hm) = hm from jg_self _ _ _] at e
      exact e
    refine jr_aload rfl rfl ?_
    refine jr_ic rfl ?_
    refine jr_putI rfl rfl ?_
    refine jr_aload rfl rfl ?_
    refine jr_ic rfl ?_
    refine jr_putI rfl rfl ?_
    refine jr_aload rfl rfl ?_
    refine jr_getR rfl rfl rfl rfl (Or.inl rfl) ?_
    refine jr_ic rfl ?_
    refine jr_iald (len := 337) rfl rfl (show _ = nI 0 from rfl) (by decide) ?_
    refine jr_iret rfl rfl (Nat.zero_le _) (Nat.zero_le _) ?_
    have hAb : A = β := funext (fun q => by
      rcases Nat.lt_or_ge q 337 with z | z
      · exact (w1 q z).trans (p4 q z)
      · exact (w2 q z).trans (p5 q z).symm)
    subst hAb
    simp only [jg_uu, jg_II]
    refine ⟨?_, b, r, ⟨⟨hw.1, hw.2.1, hw.2.2.1, p1.1⟩, p1, hr2, hto, hsp, hR, ⟨rfl, hT1.1, hT1.2.1, hT1.2.2.1, hT1.2.2.2⟩, fun j hj => ?_⟩, hTa, hFa, hLy, hTi, hLe, fun i hi => ?_, ⟨0, 0, by omega, rfl, rfl, rfl, rfl, fun _ => A, rfl, fun j hj => absurd hj (by omega), fun j _ hj => absurd hj (by omega), fun _ _ => jz_G_t (by rw [jN_u _ _ _ _ rfl, jN_u _ _ _ _ rfl]) p1, fun _ _ _ _ => rfl, fun j hj => absurd hj (by omega)⟩, hWo⟩
    · exact congrArg (fun z => some (jv_i z)) hT1.1
    · exact (hL1 j (Nat.lt_of_lt_of_eq hj (jn_1 u1 (by omega)))).trans (p3 j hj)
    obtain rfl | rfl | rfl : i = 0 ∨ i = 1 ∨ i = 2 := by omega
    · obtain ⟨c1, c2⟩ := hBo 0 (by omega)
      refine ⟨c1, c2.elim Or.inl (fun c3 => Or.inr ⟨c3.1, ?_⟩)⟩
      obtain ⟨β', r1, r2, r3, r4, r5⟩ := c3.2
      exact ⟨β', r1, r2, r3, r4, fun k hk => (r5 k hk).trans (p5 k hk).symm⟩
    · obtain ⟨c1, c2⟩ := hBo 1 (by omega)
      refine ⟨c1, c2.elim Or.inl (fun c3 => Or.inr ⟨c3.1, ?_⟩)⟩
      obtain ⟨β', r1, r2, r3, r4, r5⟩ := c3.2
      exact ⟨β', r1, r2, r3, r4, fun k hk => (r5 k hk).trans (p5 k hk).symm⟩
    · obtain ⟨c1, c2⟩ := hBo 2 (by omega)
      refine ⟨c1, c2.elim Or.inl (fun c3 => Or.inr ⟨c3.1, ?_⟩)⟩
      obtain ⟨β', r1, r2, r3, r4, r5⟩ := c3.2
      exact ⟨β', r1, r2, r3, r4, fun k hk => (r5 k hk).trans (p5 k hk).symm⟩

theorem eB_copy20 {d : Nat} {h : jx_H} {Q : Option jx_V → jx_H → Prop} {r w : Nat} {a : jw_A} (hA : jy_A h 0 r a) (hw0 : a 0 = nI w) (hw : w ≤ 511) (k : ∀ T' : Nat → Nat → Int32, jy_T (jy_np h r) T' a → (∀ j, j < w → T' 31 j = jh_I h 31 0 j) → Q none (jP (jK h 2 T' (r + 1)) (fun a => jh_I h a 0) (jh_M h 5 0 5))) : jx_Ev jm_Cal_copyOf (d + 2) 0 0 false 0 [jv_r 1 2, jv_r 1 0] h Q := by
  have e0 := ev_copy20 (d := d) (h := h) (r := r) (w := w) (S := fun a => jh_I h a 0) (kc := jh_M h 5 0 5) (m := jh_M h 1 2 0) (T := fun a => jh_I h a 2) (a := a) (Q := Q) hA hw0 hw k
  rw [jK_self, jP_self] at e0
  exact e0
theorem eB_copy02 {d : Nat} {h : jx_H} {Q : Option jx_V → jx_H → Prop} {r w : Nat} {a : jw_A} (hA : jy_A h 2 r a) (hw0 : a 0 = nI w) (hw : w ≤ 511) (k : ∀ T' : Nat → Nat → Int32, jy_T (jy_np h r) T' a → (∀ j, j < w → T' 31 j = jh_I h 31 2 j) → Q none (jP (jK h 0 T' (r + 1)) (fun a => jh_I h a 0) (jh_M h 5 0 5))) : jx_Ev jm_Cal_copyOf (d + 2) 0 0 false 0 [jv_r 1 0, jv_r 1 2] h Q := by
  have e0 := ev_copy02 (d := d) (h := h) (r := r) (w := w) (S := fun a => jh_I h a 0) (kc := jh_M h 5 0 5) (m := jh_M h 1 0 0) (T := fun a => jh_I h a 0) (a := a) (Q := Q) hA hw0 hw k
  rw [jK_self, jP_self] at e0
  exact e0
set_option maxHeartbeats 800000 in
set_option maxRecDepth 100000 in
theorem pd_image_1 {d : Nat} {hc hm : jx_H} (hRel : jz_Rel hc hm) : jx_Ev jm_JV_image (d + 40) 0 0 false 0 [jv_r 10 0, jv_i 1] hc (fun r hc' => jx_Ev jm_MD_image (d + 40) 0 0 false 1 [jv_r 11 0, jv_i 1] hm (fun r' hm' => r = r' ∧ jz_Rel hc' hm')) := by
  have hRel0 := hRel
  obtain ⟨b, r, ⟨hw, hG, hr2, hto, hsp, hR, hA, hL⟩, hTa, hFa, hLy, hTi, hLe, hBo, hAc, hWo⟩ := hRel
  have hb2 := hw.2.1
  obtain ⟨-, w, g1, g2, g3, g4⟩ := id hG
  have hC0 : jz_C hc hm b r := ⟨hw, hG, hr2, hto, hsp, hR, hA, hL⟩
  skip
  show jx_W (jm_JV_image, d + 40, 0, 0, false, 0, _) _ 0 0 0 [some (jv_r 10 0), some (jv_i 1)] [] _
  refine jr_iload rfl rfl ?_
  refine jr_if_lt rfl (fun z => absurd z (by decide)) (fun _ => ?_)
  refine jr_iload rfl rfl ?_
  refine jr_ic rfl ?_
  refine jr_icmp_lt rfl (fun _ => ?_) (fun z => absurd (by decide) z)
  refine jr_aload rfl rfl ?_
  refine jr_getR rfl rfl rfl rfl (Or.inl rfl) ?_
  refine jr_iload rfl rfl ?_
  refine jr_aald (so := 6) (len := 3) rfl rfl rfl rfl rfl (show _ = nI 1 from rfl) (by decide) (Or.inl rfl) ?_
  refine jr_aload rfl rfl ?_
  refine jr_getR rfl rfl rfl rfl (Or.inl rfl) ?_
  refine jr_cv1 (mc' := 0) (ms' := 0) rfl jm_Cal_copyOf_n jm_Cal_copyOf_f rfl rfl rfl rfl rfl rfl rfl (Nat.zero_le _) (Nat.zero_le _) ?_
  refine eB_copy20 hA g1 (by omega) (fun T1 hT1 hL1 => ?_)
  refine jr_aload rfl rfl ?_
  refine jr_getR rfl rfl rfl rfl (Or.inl rfl) ?_
  refine jr_iload rfl rfl ?_
  refine jr_ic rfl ?_
  refine jr_zast (len := 3) rfl rfl (show _ = nI 1 from rfl) (by decide) ?_
  refine jr_aload rfl rfl ?_
  refine jr_getR rfl rfl rfl rfl (Or.inl rfl) ?_
  refine jr_getI rfl rfl ?_
  refine jr_iret rfl rfl (Nat.zero_le _) (Nat.zero_le _) ?_
  show jx_W (jm_MD_image, d + 40, 0, 0, false, 1, _) _ 0 0 0 [some _, some _, none] [] _
  refine jr_iload rfl rfl ?_
  refine jr_ic rfl ?_
  refine jr_ic rfl ?_
  refine jr_cs3 (mc' := 0) (ms' := 0) rfl jm_MD_isIn_n jm_MD_isIn_f rfl rfl rfl rfl rfl (Nat.zero_le _) (Nat.zero_le _) ?_
  show jx_W (jm_MD_isIn, _, _, _, _, _, _) _ 0 0 0 [some _, some _, some _] [] _
  refine jr_iload rfl rfl ?_
  refine jr_iload rfl rfl ?_
  refine jr_icmp_lt rfl (fun z => absurd z (by decide)) (fun _ => ?_)
  refine jr_iload rfl rfl ?_
  refine jr_iload rfl rfl ?_
  refine jr_icmp_gt rfl (fun z => absurd z (by decide)) (fun _ => ?_)
  refine jr_ic rfl ?_
  refine jr_goto rfl ?_
  refine jr_zret rfl rfl rfl (Nat.zero_le _) (Nat.zero_le _) ?_
  refine jr_if_ne rfl (fun _ => ?_) (fun z => absurd z (by decide))
  refine jr_ic rfl ?_
  refine jr_ist2 rfl rfl ?_
  have e := lp_MD_image (d := d + 40) (n0 := jh_n hm) (x := 1) (Q := fun r' hm' => some (jv_i (jh_I (ju_I (jP (jK hc 2 T1 (r + 1)) (fun a => jh_I hc a 0) (jh_M hc 5 0 5)) 62 0 (upd (jh_I (jP (jK hc 2 T1 (r + 1)) (fun a => jh_I hc a 0) (jh_M hc 5 0 5)) 62 0) 1 (1 &&& 1))) 1 0 2)) = r' ∧ jz_Rel (ju_I (jP (jK hc 2 T1 (r + 1)) (fun a => jh_I hc a 0) (jh_M hc 5 0 5)) 62 0 (upd (jh_I (jP (jK hc 2 T1 (r + 1)) (fun a => jh_I hc a 0) (jh_M hc 5 0 5)) 62 0) 1 (1 &&& 1))) hm') (h := hm) (jh_I hm 121 0) 0 (by omega) (by omega) (fun q hq => absurd hq (by omega)) (fun _ _ => rfl) (fun B w1 w2 v => ?_)
  · rw [jg_self] at e
    exact e
  refine jr_aload rfl rfl ?_
  refine jr_getR rfl rfl rfl rfl (Or.inl rfl) ?_
  refine jr_iload rfl rfl ?_
  refine jr_ic rfl ?_
  refine jr_zast (len := 3) rfl rfl (show _ = nI 1 from rfl) (by decide) ?_
  refine jr_aload rfl rfl ?_
  refine jr_getR rfl rfl rfl rfl (Or.inl rfl) ?_
  refine jr_ic rfl ?_
  refine jr_iald (len := 337) rfl rfl (show _ = nI 0 from rfl) (by decide) ?_
  refine jr_iret rfl rfl (Nat.zero_le _) (Nat.zero_le _) ?_
  refine ⟨congrArg (fun z => some (jv_i z)) hA.2.1, b, r, hC0, hTa, hFa, hLy, hTi, hLe, fun i hi => ?_, jz_Ac_t (hc := hc) (hm := hm) (by rw [jN_u _ _ _ _ rfl, jN_u _ _ _ _ rfl]) ⟨rfl, rfl⟩ ⟨rfl, rfl⟩ ⟨rfl, rfl, rfl, rfl⟩ ⟨rfl, rfl⟩ hAc, hWo⟩
  obtain rfl | rfl | rfl : i = 0 ∨ i = 1 ∨ i = 2 := by omega
  · skip
    obtain ⟨b1, b2⟩ := hBo 0 (by omega)
    refine ⟨b1, b2.elim Or.inl (fun b3 => Or.inr ⟨b3.1, ?_⟩)⟩
    obtain ⟨β, p1, p2, p3, p4, p5⟩ := b3.2
    exact ⟨β, p1, p2, p3, fun k hk => (w2 _ (by omega)).trans (p4 k hk), p5⟩
  · skip
    refine ⟨rfl, Or.inr ⟨rfl, jA hm, hG, ⟨rfl, hT1.1, hT1.2.1, hT1.2.2.1, hT1.2.2.2⟩, fun j hj => ?_, fun k hk => w1 k hk, fun _ _ => rfl⟩⟩
    exact (hL1 j (Nat.lt_of_lt_of_eq hj (jn_1 g1 (by omega)))).trans (hL j hj)
  · skip
    obtain ⟨b1, b2⟩ := hBo 2 (by omega)
    refine ⟨b1, b2.elim Or.inl (fun b3 => Or.inr ⟨b3.1, ?_⟩)⟩
    obtain ⟨β, p1, p2, p3, p4, p5⟩ := b3.2
    exact ⟨β, p1, p2, p3, fun k hk => (w2 _ (by omega)).trans (p4 k hk), p5⟩

set_option maxHeartbeats 800000 in
set_option maxRecDepth 100000 in
theorem pd_back_1 {d : Nat} {hc hm : jx_H} (hRel : jz_Rel hc hm) : jx_Ev jm_JV_back (d + 40) 0 0 false 0 [jv_r 10 0, jv_i 1] hc (fun r hc' => jx_Ev jm_MD_back (d + 40) 0 0 false 1 [jv_r 11 0, jv_i 1] hm (fun r' hm' => r = r' ∧ jz_Rel hc' hm')) := by
  have hRel0 := hRel
  obtain ⟨b, r, ⟨hw, hG, hr2, hto, hsp, hR, hA, hL⟩, hTa, hFa, hLy, hTi, hLe, hBo, hAc, hWo⟩ := hRel
  have hb2 := hw.2.1
  obtain ⟨-, w, g1, g2, g3, g4⟩ := id hG
  have hC0 : jz_C hc hm b r := ⟨hw, hG, hr2, hto, hsp, hR, hA, hL⟩
  obtain ⟨b1, b2⟩ := hBo 1 (by omega)
  rcases b2 with b2 | ⟨b2, β, p1, p2, p3, p4, p5⟩
  · show jx_W (jm_JV_back, d + 40, 0, 0, false, 0, _) _ 0 0 0 [some (jv_r 10 0), some (jv_i 1)] [] _
    refine jr_iload rfl rfl ?_
    refine jr_if_lt rfl (fun z => absurd z (by decide)) (fun _ => ?_)
    refine jr_iload rfl rfl ?_
    refine jr_ic rfl ?_
    refine jr_icmp_ge rfl (fun z => absurd z (by decide)) (fun _ => ?_)
    refine jr_aload rfl rfl ?_
    refine jr_getR rfl rfl rfl rfl (Or.inl rfl) ?_
    refine jr_iload rfl rfl ?_
    refine jr_zald (len := 3) rfl rfl (show _ = nI 1 from rfl) (by decide) ?_
    refine jr_if_ne rfl (fun z => absurd (b1.trans b2) z) (fun _ => ?_)
    refine jr_ic rfl ?_
    refine jr_iret rfl rfl (Nat.zero_le _) (Nat.zero_le _) ?_
    show jx_W (jm_MD_back, d + 40, 0, 0, false, 1, _) _ 0 0 0 [some _, some _, none] [] _
    refine jr_iload rfl rfl ?_
    refine jr_ic rfl ?_
    refine jr_ic rfl ?_
    refine jr_cs3 (mc' := 0) (ms' := 0) rfl jm_MD_isIn_n jm_MD_isIn_f rfl rfl rfl rfl rfl (Nat.zero_le _) (Nat.zero_le _) ?_
    show jx_W (jm_MD_isIn, _, _, _, _, _, _) _ 0 0 0 [some _, some _, some _] [] _
    refine jr_iload rfl rfl ?_
    refine jr_iload rfl rfl ?_
    refine jr_icmp_lt rfl (fun z => absurd z (by decide)) (fun _ => ?_)
    refine jr_iload rfl rfl ?_
    refine jr_iload rfl rfl ?_
    refine jr_icmp_gt rfl (fun z => absurd z (by decide)) (fun _ => ?_)
    refine jr_ic rfl ?_
    refine jr_goto rfl ?_
    refine jr_zret rfl rfl rfl (Nat.zero_le _) (Nat.zero_le _) ?_
    refine jr_if_eq rfl (fun z => absurd z (by decide)) (fun _ => ?_)
    refine jr_aload rfl rfl ?_
    refine jr_getR rfl rfl rfl rfl (Or.inl rfl) ?_
    refine jr_iload rfl rfl ?_
    refine jr_zald (len := 3) rfl rfl (show _ = nI 1 from rfl) (by decide) ?_
    refine jr_if_ne rfl (fun z => absurd b2 z) (fun _ => ?_)
    refine jr_ic rfl ?_
    refine jr_iret rfl rfl (Nat.zero_le _) (Nat.zero_le _) ?_
    exact ⟨rfl, hRel0⟩
  · obtain ⟨u, u1, u2, -, -⟩ := id p1.2
    have hz : ¬ (1 : Int32) = 0 := by decide
    show jx_W (jm_JV_back, d + 40, 0, 0, false, 0, _) _ 0 0 0 [some (jv_r 10 0), some (jv_i 1)] [] _
    refine jr_iload rfl rfl ?_
    refine jr_if_lt rfl (fun z => absurd z (by decide)) (fun _ => ?_)
    refine jr_iload rfl rfl ?_
    refine jr_ic rfl ?_
    refine jr_icmp_ge rfl (fun z => absurd z (by decide)) (fun _ => ?_)
    refine jr_aload rfl rfl ?_
    refine jr_getR rfl rfl rfl rfl (Or.inl rfl) ?_
    refine jr_iload rfl rfl ?_
    refine jr_zald (len := 3) rfl rfl (show _ = nI 1 from rfl) (by decide) ?_
    refine jr_if_ne rfl (fun _ => ?_) (fun z => absurd z (fun z => hz ((b1.trans b2).symm.trans z)))
    refine jr_aload rfl rfl ?_
    refine jr_getR rfl rfl rfl rfl (Or.inl rfl) ?_
    refine jr_aload rfl rfl ?_
    refine jr_getR rfl rfl rfl rfl (Or.inl rfl) ?_
    refine jr_iload rfl rfl ?_
    refine jr_aald (so := 6) (len := 3) rfl rfl rfl rfl rfl (show _ = nI 1 from rfl) (by decide) (Or.inl rfl) ?_
    refine jr_cv1 (mc' := 0) (ms' := 0) rfl jm_Cal_copyOf_n jm_Cal_copyOf_f rfl rfl rfl rfl rfl rfl rfl (Nat.zero_le _) (Nat.zero_le _) ?_
    refine eB_copy02 p2 u1 (by omega) (fun T1 hT1 hL1 => ?_)
    refine jr_aload rfl rfl ?_
    refine jr_getR rfl rfl rfl rfl (Or.inl rfl) ?_
    refine jr_cv0 (mc' := 0) (ms' := 0) rfl jm_Acts_forgetAll_n jm_Acts_forgetAll_f rfl rfl rfl rfl rfl rfl rfl (Nat.zero_le _) (Nat.zero_le _) ?_
    show jx_W (jm_Acts_forgetAll, _, _, _, _, _, _) _ 0 0 0 [some _] [] _
    refine jr_aload rfl rfl ?_
    refine jr_ic rfl ?_
    refine jr_putI rfl rfl ?_
    refine jr_aload rfl rfl ?_
    refine jr_ic rfl ?_
    refine jr_putI rfl rfl ?_
    refine jr_vret rfl rfl (Nat.zero_le _) (Nat.zero_le _) ?_
    refine jr_aload rfl rfl ?_
    refine jr_getR rfl rfl rfl rfl (Or.inl rfl) ?_
    refine jr_getI rfl rfl ?_
    refine jr_iret rfl rfl (Nat.zero_le _) (Nat.zero_le _) ?_
    show jx_W (jm_MD_back, d + 40, 0, 0, false, 1, _) _ 0 0 0 [some _, some _, none] [] _
    refine jr_iload rfl rfl ?_
    refine jr_ic rfl ?_
    refine jr_ic rfl ?_
    refine jr_cs3 (mc' := 0) (ms' := 0) rfl jm_MD_isIn_n jm_MD_isIn_f rfl rfl rfl rfl rfl (Nat.zero_le _) (Nat.zero_le _) ?_
    show jx_W (jm_MD_isIn, _, _, _, _, _, _) _ 0 0 0 [some _, some _, some _] [] _
    refine jr_iload rfl rfl ?_
    refine jr_iload rfl rfl ?_
    refine jr_icmp_lt rfl (fun z => absurd z (by decide)) (fun _ => ?_)
    refine jr_iload rfl rfl ?_
    refine jr_iload rfl rfl ?_
    refine jr_icmp_gt rfl (fun z => absurd z (by decide)) (fun _ => ?_)
    refine jr_ic rfl ?_
    refine jr_goto rfl ?_
    refine jr_zret rfl rfl rfl (Nat.zero_le _) (Nat.zero_le _) ?_
    refine jr_if_eq rfl (fun z => absurd z (by decide)) (fun _ => ?_)
    refine jr_aload rfl rfl ?_
    refine jr_getR rfl rfl rfl rfl (Or.inl rfl) ?_
    refine jr_iload rfl rfl ?_
    refine jr_zald (len := 3) rfl rfl (show _ = nI 1 from rfl) (by decide) ?_
    refine jr_if_ne rfl (fun _ => ?_) (fun z => absurd z (fun z => hz (b2.symm.trans z)))
    refine jr_ic rfl ?_
    refine jr_ist2 rfl rfl ?_
    have e := lp_MD_back (d := d + 40) (n0 := jh_n hm) (x := 1) (Q := fun r' hm' => some (jv_i (jh_I (ju_I (ju_I (jP (jK hc 0 T1 (r + 1)) (fun a => jh_I hc a 0) (jh_M hc 5 0 5)) 0 0 (upd (jh_I (jP (jK hc 0 T1 (r + 1)) (fun a => jh_I hc a 0) (jh_M hc 5 0 5)) 0 0) 4 0)) 0 0 (upd (jh_I (ju_I (jP (jK hc 0 T1 (r + 1)) (fun a => jh_I hc a 0) (jh_M hc 5 0 5)) 0 0 (upd (jh_I (jP (jK hc 0 T1 (r + 1)) (fun a => jh_I hc a 0) (jh_M hc 5 0 5)) 0 0) 4 0)) 0 0) 5 0)) 1 0 2)) = r' ∧ jz_Rel (ju_I (ju_I (jP (jK hc 0 T1 (r + 1)) (fun a => jh_I hc a 0) (jh_M hc 5 0 5)) 0 0 (upd (jh_I (jP (jK hc 0 T1 (r + 1)) (fun a => jh_I hc a 0) (jh_M hc 5 0 5)) 0 0) 4 0)) 0 0 (upd (jh_I (ju_I (jP (jK hc 0 T1 (r + 1)) (fun a => jh_I hc a 0) (jh_M hc 5 0 5)) 0 0 (upd (jh_I (jP (jK hc 0 T1 (r + 1)) (fun a => jh_I hc a 0) (jh_M hc 5 0 5)) 0 0) 4 0)) 0 0) 5 0)) hm') (h := hm) (jA hm) 0 (by omega) (by omega) (fun q hq => absurd hq (by omega)) (fun _ _ => rfl) (fun A w1 w2 v => ?_)
    · rw [show ju_I hm 98 0 (jA hm) = hm from jg_self _ _ _] at e
      exact e
    refine jr_aload rfl rfl ?_
    refine jr_ic rfl ?_
    refine jr_putI rfl rfl ?_
    refine jr_aload rfl rfl ?_
    refine jr_ic rfl ?_
    refine jr_putI rfl rfl ?_
    refine jr_aload rfl rfl ?_
    refine jr_getR rfl rfl rfl rfl (Or.inl rfl) ?_
    refine jr_ic rfl ?_
    refine jr_iald (len := 337) rfl rfl (show _ = nI 0 from rfl) (by decide) ?_
    refine jr_iret rfl rfl (Nat.zero_le _) (Nat.zero_le _) ?_
    have hAb : A = β := funext (fun q => by
      rcases Nat.lt_or_ge q 337 with z | z
      · exact (w1 q z).trans (p4 q z)
      · exact (w2 q z).trans (p5 q z).symm)
    subst hAb
    simp only [jg_uu, jg_II]
    refine ⟨?_, b, r, ⟨⟨hw.1, hw.2.1, hw.2.2.1, p1.1⟩, p1, hr2, hto, hsp, hR, ⟨rfl, hT1.1, hT1.2.1, hT1.2.2.1, hT1.2.2.2⟩, fun j hj => ?_⟩, hTa, hFa, hLy, hTi, hLe, fun i hi => ?_, ⟨0, 0, by omega, rfl, rfl, rfl, rfl, fun _ => A, rfl, fun j hj => absurd hj (by omega), fun j _ hj => absurd hj (by omega), fun _ _ => jz_G_t (by rw [jN_u _ _ _ _ rfl, jN_u _ _ _ _ rfl]) p1, fun _ _ _ _ => rfl, fun j hj => absurd hj (by omega)⟩, hWo⟩
    · exact congrArg (fun z => some (jv_i z)) hT1.1
    · exact (hL1 j (Nat.lt_of_lt_of_eq hj (jn_1 u1 (by omega)))).trans (p3 j hj)
    obtain rfl | rfl | rfl : i = 0 ∨ i = 1 ∨ i = 2 := by omega
    · obtain ⟨c1, c2⟩ := hBo 0 (by omega)
      refine ⟨c1, c2.elim Or.inl (fun c3 => Or.inr ⟨c3.1, ?_⟩)⟩
      obtain ⟨β', r1, r2, r3, r4, r5⟩ := c3.2
      exact ⟨β', r1, r2, r3, r4, fun k hk => (r5 k hk).trans (p5 k hk).symm⟩
    · obtain ⟨c1, c2⟩ := hBo 1 (by omega)
      refine ⟨c1, c2.elim Or.inl (fun c3 => Or.inr ⟨c3.1, ?_⟩)⟩
      obtain ⟨β', r1, r2, r3, r4, r5⟩ := c3.2
      exact ⟨β', r1, r2, r3, r4, fun k hk => (r5 k hk).trans (p5 k hk).symm⟩
    · obtain ⟨c1, c2⟩ := hBo 2 (by omega)
      refine ⟨c1, c2.elim Or.inl (fun c3 => Or.inr ⟨c3.1, ?_⟩)⟩
      obtain ⟨β', r1, r2, r3, r4, r5⟩ := c3.2
      exact ⟨β', r1, r2, r3, r4, fun k hk => (r5 k hk).trans (p5 k hk).symm⟩

theorem eB_copy30 {d : Nat} {h : jx_H} {Q : Option jx_V → jx_H → Prop} {r w : Nat} {a : jw_A} (hA : jy_A h 0 r a) (hw0 : a 0 = nI w) (hw : w ≤ 511) (k : ∀ T' : Nat → Nat → Int32, jy_T (jy_np h r) T' a → (∀ j, j < w → T' 31 j = jh_I h 31 0 j) → Q none (jP (jK h 3 T' (r + 1)) (fun a => jh_I h a 0) (jh_M h 5 0 5))) : jx_Ev jm_Cal_copyOf (d + 2) 0 0 false 0 [jv_r 1 3, jv_r 1 0] h Q := by
  have e0 := ev_copy30 (d := d) (h := h) (r := r) (w := w) (S := fun a => jh_I h a 0) (kc := jh_M h 5 0 5) (m := jh_M h 1 3 0) (T := fun a => jh_I h a 3) (a := a) (Q := Q) hA hw0 hw k
  rw [jK_self, jP_self] at e0
  exact e0
theorem eB_copy03 {d : Nat} {h : jx_H} {Q : Option jx_V → jx_H → Prop} {r w : Nat} {a : jw_A} (hA : jy_A h 3 r a) (hw0 : a 0 = nI w) (hw : w ≤ 511) (k : ∀ T' : Nat → Nat → Int32, jy_T (jy_np h r) T' a → (∀ j, j < w → T' 31 j = jh_I h 31 3 j) → Q none (jP (jK h 0 T' (r + 1)) (fun a => jh_I h a 0) (jh_M h 5 0 5))) : jx_Ev jm_Cal_copyOf (d + 2) 0 0 false 0 [jv_r 1 0, jv_r 1 3] h Q := by
  have e0 := ev_copy03 (d := d) (h := h) (r := r) (w := w) (S := fun a => jh_I h a 0) (kc := jh_M h 5 0 5) (m := jh_M h 1 0 0) (T := fun a => jh_I h a 0) (a := a) (Q := Q) hA hw0 hw k
  rw [jK_self, jP_self] at e0
  exact e0
set_option maxHeartbeats 800000 in
set_option maxRecDepth 100000 in
theorem pd_image_2 {d : Nat} {hc hm : jx_H} (hRel : jz_Rel hc hm) : jx_Ev jm_JV_image (d + 40) 0 0 false 0 [jv_r 10 0, jv_i 2] hc (fun r hc' => jx_Ev jm_MD_image (d + 40) 0 0 false 1 [jv_r 11 0, jv_i 2] hm (fun r' hm' => r = r' ∧ jz_Rel hc' hm')) := by
  have hRel0 := hRel
  obtain ⟨b, r, ⟨hw, hG, hr2, hto, hsp, hR, hA, hL⟩, hTa, hFa, hLy, hTi, hLe, hBo, hAc, hWo⟩ := hRel
  have hb2 := hw.2.1
  obtain ⟨-, w, g1, g2, g3, g4⟩ := id hG
  have hC0 : jz_C hc hm b r := ⟨hw, hG, hr2, hto, hsp, hR, hA, hL⟩
  skip
  show jx_W (jm_JV_image, d + 40, 0, 0, false, 0, _) _ 0 0 0 [some (jv_r 10 0), some (jv_i 2)] [] _
  refine jr_iload rfl rfl ?_
  refine jr_if_lt rfl (fun z => absurd z (by decide)) (fun _ => ?_)
  refine jr_iload rfl rfl ?_
  refine jr_ic rfl ?_
  refine jr_icmp_lt rfl (fun _ => ?_) (fun z => absurd (by decide) z)
  refine jr_aload rfl rfl ?_
  refine jr_getR rfl rfl rfl rfl (Or.inl rfl) ?_
  refine jr_iload rfl rfl ?_
  refine jr_aald (so := 6) (len := 3) rfl rfl rfl rfl rfl (show _ = nI 2 from rfl) (by decide) (Or.inl rfl) ?_
  refine jr_aload rfl rfl ?_
  refine jr_getR rfl rfl rfl rfl (Or.inl rfl) ?_
  refine jr_cv1 (mc' := 0) (ms' := 0) rfl jm_Cal_copyOf_n jm_Cal_copyOf_f rfl rfl rfl rfl rfl rfl rfl (Nat.zero_le _) (Nat.zero_le _) ?_
  refine eB_copy30 hA g1 (by omega) (fun T1 hT1 hL1 => ?_)
  refine jr_aload rfl rfl ?_
  refine jr_getR rfl rfl rfl rfl (Or.inl rfl) ?_
  refine jr_iload rfl rfl ?_
  refine jr_ic rfl ?_
  refine jr_zast (len := 3) rfl rfl (show _ = nI 2 from rfl) (by decide) ?_
  refine jr_aload rfl rfl ?_
  refine jr_getR rfl rfl rfl rfl (Or.inl rfl) ?_
  refine jr_getI rfl rfl ?_
  refine jr_iret rfl rfl (Nat.zero_le _) (Nat.zero_le _) ?_
  show jx_W (jm_MD_image, d + 40, 0, 0, false, 1, _) _ 0 0 0 [some _, some _, none] [] _
  refine jr_iload rfl rfl ?_
  refine jr_ic rfl ?_
  refine jr_ic rfl ?_
  refine jr_cs3 (mc' := 0) (ms' := 0) rfl jm_MD_isIn_n jm_MD_isIn_f rfl rfl rfl rfl rfl (Nat.zero_le _) (Nat.zero_le _) ?_
  show jx_W (jm_MD_isIn, _, _, _, _, _, _) _ 0 0 0 [some _, some _, some _] [] _
  refine jr_iload rfl rfl ?_
  refine jr_iload rfl rfl ?_
  refine jr_icmp_lt rfl (fun z => absurd z (by decide)) (fun _ => ?_)
  refine jr_iload rfl rfl ?_
  refine jr_iload rfl rfl ?_
  refine jr_icmp_gt rfl (fun z => absurd z (by decide)) (fun _ => ?_)
  refine jr_ic rfl ?_
  refine jr_goto rfl ?_
  refine jr_zret rfl rfl rfl (Nat.zero_le _) (Nat.zero_le _) ?_
  refine jr_if_ne rfl (fun _ => ?_) (fun z => absurd z (by decide))
  refine jr_ic rfl ?_
  refine jr_ist2 rfl rfl ?_
  have e := lp_MD_image (d := d + 40) (n0 := jh_n hm) (x := 2) (Q := fun r' hm' => some (jv_i (jh_I (ju_I (jP (jK hc 3 T1 (r + 1)) (fun a => jh_I hc a 0) (jh_M hc 5 0 5)) 62 0 (upd (jh_I (jP (jK hc 3 T1 (r + 1)) (fun a => jh_I hc a 0) (jh_M hc 5 0 5)) 62 0) 2 (1 &&& 1))) 1 0 2)) = r' ∧ jz_Rel (ju_I (jP (jK hc 3 T1 (r + 1)) (fun a => jh_I hc a 0) (jh_M hc 5 0 5)) 62 0 (upd (jh_I (jP (jK hc 3 T1 (r + 1)) (fun a => jh_I hc a 0) (jh_M hc 5 0 5)) 62 0) 2 (1 &&& 1))) hm') (h := hm) (jh_I hm 121 0) 0 (by omega) (by omega) (fun q hq => absurd hq (by omega)) (fun _ _ => rfl) (fun B w1 w2 v => ?_)
  · rw [jg_self] at e
    exact e
  refine jr_aload rfl rfl ?_
  refine jr_getR rfl rfl rfl rfl (Or.inl rfl) ?_
  refine jr_iload rfl rfl ?_
  refine jr_ic rfl ?_
  refine jr_zast (len := 3) rfl rfl (show _ = nI 2 from rfl) (by decide) ?_
  refine jr_aload rfl rfl ?_
  refine jr_getR rfl rfl rfl rfl (Or.inl rfl) ?_
  refine jr_ic rfl ?_
  refine jr_iald (len := 337) rfl rfl (show _ = nI 0 from rfl) (by decide) ?_
  refine jr_iret rfl rfl (Nat.zero_le _) (Nat.zero_le _) ?_
  refine ⟨congrArg (fun z => some (jv_i z)) hA.2.1, b, r, hC0, hTa, hFa, hLy, hTi, hLe, fun i hi => ?_, jz_Ac_t (hc := hc) (hm := hm) (by rw [jN_u _ _ _ _ rfl, jN_u _ _ _ _ rfl]) ⟨rfl, rfl⟩ ⟨rfl, rfl⟩ ⟨rfl, rfl, rfl, rfl⟩ ⟨rfl, rfl⟩ hAc, hWo⟩
  obtain rfl | rfl | rfl : i = 0 ∨ i = 1 ∨ i = 2 := by omega
  · skip
    obtain ⟨b1, b2⟩ := hBo 0 (by omega)
    refine ⟨b1, b2.elim Or.inl (fun b3 => Or.inr ⟨b3.1, ?_⟩)⟩
    obtain ⟨β, p1, p2, p3, p4, p5⟩ := b3.2
    exact ⟨β, p1, p2, p3, fun k hk => (w2 _ (by omega)).trans (p4 k hk), p5⟩
  · skip
    obtain ⟨b1, b2⟩ := hBo 1 (by omega)
    refine ⟨b1, b2.elim Or.inl (fun b3 => Or.inr ⟨b3.1, ?_⟩)⟩
    obtain ⟨β, p1, p2, p3, p4, p5⟩ := b3.2
    exact ⟨β, p1, p2, p3, fun k hk => (w2 _ (by omega)).trans (p4 k hk), p5⟩
  · skip
    refine ⟨rfl, Or.inr ⟨rfl, jA hm, hG, ⟨rfl, hT1.1, hT1.2.1, hT1.2.2.1, hT1.2.2.2⟩, fun j hj => ?_, fun k hk => w1 k hk, fun _ _ => rfl⟩⟩
    exact (hL1 j (Nat.lt_of_lt_of_eq hj (jn_1 g1 (by omega)))).trans (hL j hj)

set_option maxHeartbeats 800000 in
set_option maxRecDepth 100000 in
theorem pd_back_2 {d : Nat} {hc hm : jx_H} (hRel : jz_Rel hc hm) : jx_Ev jm_JV_back (d + 40) 0 0 false 0 [jv_r 10 0, jv_i 2] hc (fun r hc' => jx_Ev jm_MD_back (d + 40) 0 0 false 1 [jv_r 11 0, jv_i 2] hm (fun r' hm' => r = r' ∧ jz_Rel hc' hm')) := by
  have hRel0 := hRel
  obtain ⟨b, r, ⟨hw, hG, hr2, hto, hsp, hR, hA, hL⟩, hTa, hFa, hLy, hTi, hLe, hBo, hAc, hWo⟩ := hRel
  have hb2 := hw.2.1
  obtain ⟨-, w, g1, g2, g3, g4⟩ := id hG
  have hC0 : jz_C hc hm b r := ⟨hw, hG, hr2, hto, hsp, hR, hA, hL⟩
  obtain ⟨b1, b2⟩ := hBo 2 (by omega)
  rcases b2 with b2 | ⟨b2, β, p1, p2, p3, p4, p5⟩
  · show jx_W (jm_JV_back, d + 40, 0, 0, false, 0, _) _ 0 0 0 [some (jv_r 10 0), some (jv_i 2)] [] _
    refine jr_iload rfl rfl ?_
    refine jr_if_lt rfl (fun z => absurd z (by decide)) (fun _ => ?_)
    refine jr_iload rfl rfl ?_
    refine jr_ic rfl ?_
    refine jr_icmp_ge rfl (fun z => absurd z (by decide)) (fun _ => ?_)
    refine jr_aload rfl rfl ?_
    refine jr_getR rfl rfl rfl rfl (Or.inl rfl) ?_
    refine jr_iload rfl rfl ?_
    refine jr_zald (len := 3) rfl rfl (show _ = nI 2 from rfl) (by decide) ?_
    refine jr_if_ne rfl (fun z => absurd (b1.trans b2) z) (fun _ => ?_)
    refine jr_ic rfl ?_
    refine jr_iret rfl rfl (Nat.zero_le _) (Nat.zero_le _) ?_
    show jx_W (jm_MD_back, d + 40, 0, 0, false, 1, _) _ 0 0 0 [some _, some _, none] [] _
    refine jr_iload rfl rfl ?_
    refine jr_ic rfl ?_
    refine jr_ic rfl ?_
    refine jr_cs3 (mc' := 0) (ms' := 0) rfl jm_MD_isIn_n jm_MD_isIn_f rfl rfl rfl rfl rfl (Nat.zero_le _) (Nat.zero_le _) ?_
    show jx_W (jm_MD_isIn, _, _, _, _, _, _) _ 0 0 0 [some _, some _, some _] [] _
    refine jr_iload rfl rfl ?_
    refine jr_iload rfl rfl ?_
    refine jr_icmp_lt rfl (fun z => absurd z (by decide)) (fun _ => ?_)
    refine jr_iload rfl rfl ?_
    refine jr_iload rfl rfl ?_
    refine jr_icmp_gt rfl (fun z => absurd z (by decide)) (fun _ => ?_)
    refine jr_ic rfl ?_
    refine jr_goto rfl ?_
    refine jr_zret rfl rfl rfl (Nat.zero_le _) (Nat.zero_le _) ?_
    refine jr_if_eq rfl (fun z => absurd z (by decide)) (fun _ => ?_)
    refine jr_aload rfl rfl ?_
    refine jr_getR rfl rfl rfl rfl (Or.inl rfl) ?_
    refine jr_iload rfl rfl ?_
    refine jr_zald (len := 3) rfl rfl (show _ = nI 2 from rfl) (by decide) ?_
    refine jr_if_ne rfl (fun z => absurd b2 z) (fun _ => ?_)
    refine jr_ic rfl ?_
    refine jr_iret rfl rfl (Nat.zero_le _) (Nat.zero_le _) ?_
    exact ⟨rfl, hRel0⟩
  · obtain ⟨u, u1, u2, -, -⟩ := id p1.2
    have hz : ¬ (1 : Int32) = 0 := by decide
    show jx_W (jm_JV_back, d + 40, 0, 0, false, 0, _) _ 0 0 0 [some (jv_r 10 0), some (jv_i 2)] [] _
    refine jr_iload rfl rfl ?_
    refine jr_if_lt rfl (fun z => absurd z (by decide)) (fun _ => ?_)
    refine jr_iload rfl rfl ?_
    refine jr_ic rfl ?_
    refine jr_icmp_ge rfl (fun z => absurd z (by decide)) (fun _ => ?_)
    refine jr_aload rfl rfl ?_
    refine jr_getR rfl rfl rfl rfl (Or.inl rfl) ?_
    refine jr_iload rfl rfl ?_
    refine jr_zald (len := 3) rfl rfl (show _ = nI 2 from rfl) (by decide) ?_
    refine jr_if_ne rfl (fun _ => ?_) (fun z => absurd z (fun z => hz ((b1.trans b2).symm.trans z)))
    refine jr_aload rfl rfl ?_
    refine jr_getR rfl rfl rfl rfl (Or.inl rfl) ?_
    refine jr_aload rfl rfl ?_
    refine jr_getR rfl rfl rfl rfl (Or.inl rfl) ?_
    refine jr_iload rfl rfl ?_
    refine jr_aald (so := 6) (len := 3) rfl rfl rfl rfl rfl (show _ = nI 2 from rfl) (by decide) (Or.inl rfl) ?_
    refine jr_cv1 (mc' := 0) (ms' := 0) rfl jm_Cal_copyOf_n jm_Cal_copyOf_f rfl rfl rfl rfl rfl rfl rfl (Nat.zero_le _) (Nat.zero_le _) ?_
    refine eB_copy03 p2 u1 (by omega) (fun T1 hT1 hL1 => ?_)
    refine jr_aload rfl rfl ?_
    refine jr_getR rfl rfl rfl rfl (Or.inl rfl) ?_
    refine jr_cv0 (mc' := 0) (ms' := 0) rfl jm_Acts_forgetAll_n jm_Acts_forgetAll_f rfl rfl rfl rfl rfl rfl rfl (Nat.zero_le _) (Nat.zero_le _) ?_
    show jx_W (jm_Acts_forgetAll, _, _, _, _, _, _) _ 0 0 0 [some _] [] _
    refine jr_aload rfl rfl ?_
    refine jr_ic rfl ?_
    refine jr_putI rfl rfl ?_
    refine jr_aload rfl rfl ?_
    refine jr_ic rfl ?_
    refine jr_putI rfl rfl ?_
    refine jr_vret rfl rfl (Nat.zero_le _) (Nat.zero_le _) ?_
    refine jr_aload rfl rfl ?_
    refine jr_getR rfl rfl rfl rfl (Or.inl rfl) ?_
    refine jr_getI rfl rfl ?_
    refine jr_iret rfl rfl (Nat.zero_le _) (Nat.zero_le _) ?_
    show jx_W (jm_MD_back, d + 40, 0, 0, false, 1, _) _ 0 0 0 [some _, some _, none] [] _
    refine jr_iload rfl rfl ?_
    refine jr_ic rfl ?_
    refine jr_ic rfl ?_
    refine jr_cs3 (mc' := 0) (ms' := 0) rfl jm_MD_isIn_n jm_MD_isIn_f rfl rfl rfl rfl rfl (Nat.zero_le _) (Nat.zero_le _) ?_
    show jx_W (jm_MD_isIn, _, _, _, _, _, _) _ 0 0 0 [some _, some _, some _] [] _
    refine jr_iload rfl rfl ?_
    refine jr_iload rfl rfl ?_
    refine jr_icmp_lt rfl (fun z => absurd z (by decide)) (fun _ => ?_)
    refine jr_iload rfl rfl ?_
    refine jr_iload rfl rfl ?_
    refine jr_icmp_gt rfl (fun z => absurd z (by decide)) (fun _ => ?_)
    refine jr_ic rfl ?_
    refine jr_goto rfl ?_
    refine jr_zret rfl rfl rfl (Nat.zero_le _) (Nat.zero_le _) ?_
    refine jr_if_eq rfl (fun z => absurd z (by decide)) (fun _ => ?_)
    refine jr_aload rfl rfl ?_
    refine jr_getR rfl rfl rfl rfl (Or.inl rfl) ?_
    refine jr_iload rfl rfl ?_
    refine jr_zald (len := 3) rfl rfl (show _ = nI 2 from rfl) (by decide) ?_
    refine jr_if_ne rfl (fun _ => ?_) (fun z => absurd z (fun z => hz (b2.symm.trans z)))
    refine jr_ic rfl ?_
    refine jr_ist2 rfl rfl ?_
    have e := lp_MD_back (d := d + 40) (n0 := jh_n hm) (x := 2) (Q := fun r' hm' => some (jv_i (jh_I (ju_I (ju_I (jP (jK hc 0 T1 (r + 1)) (fun a => jh_I hc a 0) (jh_M hc 5 0 5)) 0 0 (upd (jh_I (jP (jK hc 0 T1 (r + 1)) (fun a => jh_I hc a 0) (jh_M hc 5 0 5)) 0 0) 4 0)) 0 0 (upd (jh_I (ju_I (jP (jK hc 0 T1 (r + 1)) (fun a => jh_I hc a 0) (jh_M hc 5 0 5)) 0 0 (upd (jh_I (jP (jK hc 0 T1 (r + 1)) (fun a => jh_I hc a 0) (jh_M hc 5 0 5)) 0 0) 4 0)) 0 0) 5 0)) 1 0 2)) = r' ∧ jz_Rel (ju_I (ju_I (jP (jK hc 0 T1 (r + 1)) (fun a => jh_I hc a 0) (jh_M hc 5 0 5)) 0 0 (upd (jh_I (jP (jK hc 0 T1 (r + 1)) (fun a => jh_I hc a 0) (jh_M hc 5 0 5)) 0 0) 4 0)) 0 0 (upd (jh_I (ju_I (jP (jK hc 0 T1 (r + 1)) (fun a => jh_I hc a 0) (jh_M hc 5 0 5)) 0 0 (upd (jh_I (jP (jK hc 0 T1 (r + 1)) (fun a => jh_I hc a 0) (jh_M hc 5 0 5)) 0 0) 4 0)) 0 0) 5 0)) hm') (h := hm) (jA hm) 0 (by omega) (by omega) (fun q hq => absurd hq (by omega)) (fun _ _ => rfl) (fun A w1 w2 v => ?_)
    · rw [show ju_I hm 98 0 (jA hm) = hm from jg_self _ _ _] at e
      exact e
    refine jr_aload rfl rfl ?_
    refine jr_ic rfl ?_
    refine jr_putI rfl rfl ?_
    refine jr_aload rfl rfl ?_
    refine jr_ic rfl ?_
    refine jr_putI rfl rfl ?_
    refine jr_aload rfl rfl ?_
    refine jr_getR rfl rfl rfl rfl (Or.inl rfl) ?_
    refine jr_ic rfl ?_
    refine jr_iald (len := 337) rfl rfl (show _ = nI 0 from rfl) (by decide) ?_
    refine jr_iret rfl rfl (Nat.zero_le _) (Nat.zero_le _) ?_
    have hAb : A = β := funext (fun q => by
      rcases Nat.lt_or_ge q 337 with z | z
      · exact (w1 q z).trans (p4 q z)
      · exact (w2 q z).trans (p5 q z).symm)
    subst hAb
    simp only [jg_uu, jg_II]
    refine ⟨?_, b, r, ⟨⟨hw.1, hw.2.1, hw.2.2.1, p1.1⟩, p1, hr2, hto, hsp, hR, ⟨rfl, hT1.1, hT1.2.1, hT1.2.2.1, hT1.2.2.2⟩, fun j hj => ?_⟩, hTa, hFa, hLy, hTi, hLe, fun i hi => ?_, ⟨0, 0, by omega, rfl, rfl, rfl, rfl, fun _ => A, rfl, fun j hj => absurd hj (by omega), fun j _ hj => absurd hj (by omega), fun _ _ => jz_G_t (by rw [jN_u _ _ _ _ rfl, jN_u _ _ _ _ rfl]) p1, fun _ _ _ _ => rfl, fun j hj => absurd hj (by omega)⟩, hWo⟩
    · exact congrArg (fun z => some (jv_i z)) hT1.1
    · exact (hL1 j (Nat.lt_of_lt_of_eq hj (jn_1 u1 (by omega)))).trans (p3 j hj)
    obtain rfl | rfl | rfl : i = 0 ∨ i = 1 ∨ i = 2 := by omega
    · obtain ⟨c1, c2⟩ := hBo 0 (by omega)
      refine ⟨c1, c2.elim Or.inl (fun c3 => Or.inr ⟨c3.1, ?_⟩)⟩
      obtain ⟨β', r1, r2, r3, r4, r5⟩ := c3.2
      exact ⟨β', r1, r2, r3, r4, fun k hk => (r5 k hk).trans (p5 k hk).symm⟩
    · obtain ⟨c1, c2⟩ := hBo 1 (by omega)
      refine ⟨c1, c2.elim Or.inl (fun c3 => Or.inr ⟨c3.1, ?_⟩)⟩
      obtain ⟨β', r1, r2, r3, r4, r5⟩ := c3.2
      exact ⟨β', r1, r2, r3, r4, fun k hk => (r5 k hk).trans (p5 k hk).symm⟩
    · obtain ⟨c1, c2⟩ := hBo 2 (by omega)
      refine ⟨c1, c2.elim Or.inl (fun c3 => Or.inr ⟨c3.1, ?_⟩)⟩
      obtain ⟨β', r1, r2, r3, r4, r5⟩ := c3.2
      exact ⟨β', r1, r2, r3, r4, fun k hk => (r5 k hk).trans (p5 k hk).symm⟩


theorem pd_image_o {d : Nat} {hc hm : jx_H} {x : Int32} (hRel : jz_Rel hc hm) (hx0 : ¬ x = 0) (hx1 : ¬ x = 1) (hx2 : ¬ x = 2) : jx_Ev jm_JV_image (d + 40) 0 0 false 0 [jv_r 10 0, jv_i x] hc (fun r hc' => jx_Ev jm_MD_image (d + 40) 0 0 false 1 [jv_r 11 0, jv_i x] hm (fun r' hm' => r = r' ∧ jz_Rel hc' hm')) := by
  have hRel0 := hRel
  simp only [← Int32.toInt_inj, Int32.reduceToInt] at hx0 hx1 hx2
  show jx_W (jm_JV_image, d + 40, 0, 0, false, 0, _) _ 0 0 0 [some (jv_r 10 0), some (jv_i x)] [] _
  refine jr_iload rfl rfl ?_
  refine jr_if_lt rfl (fun c1 => ?_) (fun c1 => ?_)
  · refine jr_ic rfl ?_
    refine jr_iret rfl rfl (Nat.zero_le _) (Nat.zero_le _) ?_
    show jx_W (jm_MD_image, d + 40, 0, 0, false, 1, _) _ 0 0 0 [some _, some _, none] [] _
    refine jr_iload rfl rfl ?_
    refine jr_ic rfl ?_
    refine jr_ic rfl ?_
    refine jr_cs3 (mc' := 0) (ms' := 0) rfl jm_MD_isIn_n jm_MD_isIn_f rfl rfl rfl rfl rfl (Nat.zero_le _) (Nat.zero_le _) ?_
    show jx_W (jm_MD_isIn, _, _, _, _, _, _) _ 0 0 0 [some _, some _, some _] [] _
    refine jr_iload rfl rfl ?_
    refine jr_iload rfl rfl ?_
    refine jr_icmp_lt rfl (fun m2MDisIn => ?_) (fun m2MDisIn => ?_)
    · refine jr_ic rfl ?_
      refine jr_zret rfl rfl rfl (Nat.zero_le _) (Nat.zero_le _) ?_
      refine jr_if_ne rfl (fun z => absurd (by decide) z) (fun _ => ?_)
      refine jr_ic rfl ?_
      refine jr_iret rfl rfl (Nat.zero_le _) (Nat.zero_le _) ?_
      first
        | exact ⟨rfl, hRel0⟩
        | (exfalso; omega)
        | (exfalso; simp (disch := omega) only [Int32.lt_iff_toInt_lt, Int32.le_iff_toInt_le, ← Int32.toInt_inj, Int32.reduceToInt, nI_toInt] at c1 m2MDisIn; done)
        | (exfalso; simp (disch := omega) only [Int32.lt_iff_toInt_lt, Int32.le_iff_toInt_le, ← Int32.toInt_inj, Int32.reduceToInt, nI_toInt] at c1 m2MDisIn; omega)
    · refine jr_iload rfl rfl ?_
      refine jr_iload rfl rfl ?_
      refine jr_icmp_gt rfl (fun m5MDisIn => ?_) (fun m5MDisIn => ?_)
      · refine jr_ic rfl ?_
        refine jr_zret rfl rfl rfl (Nat.zero_le _) (Nat.zero_le _) ?_
        refine jr_if_ne rfl (fun z => absurd (by decide) z) (fun _ => ?_)
        refine jr_ic rfl ?_
        refine jr_iret rfl rfl (Nat.zero_le _) (Nat.zero_le _) ?_
        first
          | exact ⟨rfl, hRel0⟩
          | (exfalso; omega)
          | (exfalso; simp (disch := omega) only [Int32.lt_iff_toInt_lt, Int32.le_iff_toInt_le, ← Int32.toInt_inj, Int32.reduceToInt, nI_toInt] at c1 m2MDisIn m5MDisIn; done)
          | (exfalso; simp (disch := omega) only [Int32.lt_iff_toInt_lt, Int32.le_iff_toInt_le, ← Int32.toInt_inj, Int32.reduceToInt, nI_toInt] at c1 m2MDisIn m5MDisIn; omega)
      · refine jr_ic rfl ?_
        refine jr_goto rfl ?_
        refine jr_zret rfl rfl rfl (Nat.zero_le _) (Nat.zero_le _) ?_
        refine jr_if_ne rfl (fun _ => ?_) (fun z => absurd z (by decide))
        refine jr_ic rfl ?_
        refine jr_ist2 rfl rfl ?_
        first
          | (exfalso; omega)
          | (exfalso; simp (disch := omega) only [Int32.lt_iff_toInt_lt, Int32.le_iff_toInt_le, ← Int32.toInt_inj, Int32.reduceToInt, nI_toInt] at c1 m2MDisIn m5MDisIn; done)
          | (exfalso; simp (disch := omega) only [Int32.lt_iff_toInt_lt, Int32.le_iff_toInt_le, ← Int32.toInt_inj, Int32.reduceToInt, nI_toInt] at c1 m2MDisIn m5MDisIn; omega)
  · refine jr_iload rfl rfl ?_
    refine jr_ic rfl ?_
    refine jr_icmp_lt rfl (fun c4 => ?_) (fun c4 => ?_)
    · refine jr_aload rfl rfl ?_
      refine jr_getR rfl rfl rfl rfl (Or.inl rfl) ?_
      refine jr_iload rfl rfl ?_
      first
        | (exfalso; omega)
        | (exfalso; simp (disch := omega) only [Int32.lt_iff_toInt_lt, Int32.le_iff_toInt_le, ← Int32.toInt_inj, Int32.reduceToInt, nI_toInt] at c1 c4; done)
        | (exfalso; simp (disch := omega) only [Int32.lt_iff_toInt_lt, Int32.le_iff_toInt_le, ← Int32.toInt_inj, Int32.reduceToInt, nI_toInt] at c1 c4; omega)
    · refine jr_ic rfl ?_
      refine jr_iret rfl rfl (Nat.zero_le _) (Nat.zero_le _) ?_
      show jx_W (jm_MD_image, d + 40, 0, 0, false, 1, _) _ 0 0 0 [some _, some _, none] [] _
      refine jr_iload rfl rfl ?_
      refine jr_ic rfl ?_
      refine jr_ic rfl ?_
      refine jr_cs3 (mc' := 0) (ms' := 0) rfl jm_MD_isIn_n jm_MD_isIn_f rfl rfl rfl rfl rfl (Nat.zero_le _) (Nat.zero_le _) ?_
      show jx_W (jm_MD_isIn, _, _, _, _, _, _) _ 0 0 0 [some _, some _, some _] [] _
      refine jr_iload rfl rfl ?_
      refine jr_iload rfl rfl ?_
      refine jr_icmp_lt rfl (fun m2MDisIn => ?_) (fun m2MDisIn => ?_)
      · refine jr_ic rfl ?_
        refine jr_zret rfl rfl rfl (Nat.zero_le _) (Nat.zero_le _) ?_
        refine jr_if_ne rfl (fun z => absurd (by decide) z) (fun _ => ?_)
        refine jr_ic rfl ?_
        refine jr_iret rfl rfl (Nat.zero_le _) (Nat.zero_le _) ?_
        first
          | exact ⟨rfl, hRel0⟩
          | (exfalso; omega)
          | (exfalso; simp (disch := omega) only [Int32.lt_iff_toInt_lt, Int32.le_iff_toInt_le, ← Int32.toInt_inj, Int32.reduceToInt, nI_toInt] at c1 c4 m2MDisIn; done)
          | (exfalso; simp (disch := omega) only [Int32.lt_iff_toInt_lt, Int32.le_iff_toInt_le, ← Int32.toInt_inj, Int32.reduceToInt, nI_toInt] at c1 c4 m2MDisIn; omega)
      · refine jr_iload rfl rfl ?_
        refine jr_iload rfl rfl ?_
        refine jr_icmp_gt rfl (fun m5MDisIn => ?_) (fun m5MDisIn => ?_)
        · refine jr_ic rfl ?_
          refine jr_zret rfl rfl rfl (Nat.zero_le _) (Nat.zero_le _) ?_
          refine jr_if_ne rfl (fun z => absurd (by decide) z) (fun _ => ?_)
          refine jr_ic rfl ?_
          refine jr_iret rfl rfl (Nat.zero_le _) (Nat.zero_le _) ?_
          first
            | exact ⟨rfl, hRel0⟩
            | (exfalso; omega)
            | (exfalso; simp (disch := omega) only [Int32.lt_iff_toInt_lt, Int32.le_iff_toInt_le, ← Int32.toInt_inj, Int32.reduceToInt, nI_toInt] at c1 c4 m2MDisIn m5MDisIn; done)
            | (exfalso; simp (disch := omega) only [Int32.lt_iff_toInt_lt, Int32.le_iff_toInt_le, ← Int32.toInt_inj, Int32.reduceToInt, nI_toInt] at c1 c4 m2MDisIn m5MDisIn; omega)
        · refine jr_ic rfl ?_
          refine jr_goto rfl ?_
          refine jr_zret rfl rfl rfl (Nat.zero_le _) (Nat.zero_le _) ?_
          refine jr_if_ne rfl (fun _ => ?_) (fun z => absurd z (by decide))
          refine jr_ic rfl ?_
          refine jr_ist2 rfl rfl ?_
          first
            | (exfalso; omega)
            | (exfalso; simp (disch := omega) only [Int32.lt_iff_toInt_lt, Int32.le_iff_toInt_le, ← Int32.toInt_inj, Int32.reduceToInt, nI_toInt] at c1 c4 m2MDisIn m5MDisIn; done)
            | (exfalso; simp (disch := omega) only [Int32.lt_iff_toInt_lt, Int32.le_iff_toInt_le, ← Int32.toInt_inj, Int32.reduceToInt, nI_toInt] at c1 c4 m2MDisIn m5MDisIn; omega)
theorem pd_image {d : Nat} {hc hm : jx_H} {x : Int32} (hRel : jz_Rel hc hm) : jx_Ev jm_JV_image (d + 40) 0 0 false 0 [jv_r 10 0, jv_i x] hc (fun r hc' => jx_Ev jm_MD_image (d + 40) 0 0 false 1 [jv_r 11 0, jv_i x] hm (fun r' hm' => r = r' ∧ jz_Rel hc' hm')) := by
  by_cases h0 : x = 0
  · subst h0; exact pd_image_0 hRel
  by_cases h1 : x = 1
  · subst h1; exact pd_image_1 hRel
  by_cases h2 : x = 2
  · subst h2; exact pd_image_2 hRel
  exact pd_image_o hRel h0 h1 h2

theorem pd_back_o {d : Nat} {hc hm : jx_H} {x : Int32} (hRel : jz_Rel hc hm) (hx0 : ¬ x = 0) (hx1 : ¬ x = 1) (hx2 : ¬ x = 2) : jx_Ev jm_JV_back (d + 40) 0 0 false 0 [jv_r 10 0, jv_i x] hc (fun r hc' => jx_Ev jm_MD_back (d + 40) 0 0 false 1 [jv_r 11 0, jv_i x] hm (fun r' hm' => r = r' ∧ jz_Rel hc' hm')) := by
  have hRel0 := hRel
  simp only [← Int32.toInt_inj, Int32.reduceToInt] at hx0 hx1 hx2
  show jx_W (jm_JV_back, d + 40, 0, 0, false, 0, _) _ 0 0 0 [some (jv_r 10 0), some (jv_i x)] [] _
  refine jr_iload rfl rfl ?_
  refine jr_if_lt rfl (fun c1 => ?_) (fun c1 => ?_)
  · refine jr_ic rfl ?_
    refine jr_iret rfl rfl (Nat.zero_le _) (Nat.zero_le _) ?_
    show jx_W (jm_MD_back, d + 40, 0, 0, false, 1, _) _ 0 0 0 [some _, some _, none] [] _
    refine jr_iload rfl rfl ?_
    refine jr_ic rfl ?_
    refine jr_ic rfl ?_
    refine jr_cs3 (mc' := 0) (ms' := 0) rfl jm_MD_isIn_n jm_MD_isIn_f rfl rfl rfl rfl rfl (Nat.zero_le _) (Nat.zero_le _) ?_
    show jx_W (jm_MD_isIn, _, _, _, _, _, _) _ 0 0 0 [some _, some _, some _] [] _
    refine jr_iload rfl rfl ?_
    refine jr_iload rfl rfl ?_
    refine jr_icmp_lt rfl (fun m2MDisIn => ?_) (fun m2MDisIn => ?_)
    · refine jr_ic rfl ?_
      refine jr_zret rfl rfl rfl (Nat.zero_le _) (Nat.zero_le _) ?_
      refine jr_if_eq rfl (fun _ => ?_) (fun z => absurd (by decide) z)
      refine jr_ic rfl ?_
      refine jr_iret rfl rfl (Nat.zero_le _) (Nat.zero_le _) ?_
      first
        | exact ⟨rfl, hRel0⟩
        | (exfalso; omega)
        | (exfalso; simp (disch := omega) only [Int32.lt_iff_toInt_lt, Int32.le_iff_toInt_le, ← Int32.toInt_inj, Int32.reduceToInt, nI_toInt] at c1 m2MDisIn; done)
        | (exfalso; simp (disch := omega) only [Int32.lt_iff_toInt_lt, Int32.le_iff_toInt_le, ← Int32.toInt_inj, Int32.reduceToInt, nI_toInt] at c1 m2MDisIn; omega)
    · refine jr_iload rfl rfl ?_
      refine jr_iload rfl rfl ?_
      refine jr_icmp_gt rfl (fun m5MDisIn => ?_) (fun m5MDisIn => ?_)
      · refine jr_ic rfl ?_
        refine jr_zret rfl rfl rfl (Nat.zero_le _) (Nat.zero_le _) ?_
        refine jr_if_eq rfl (fun _ => ?_) (fun z => absurd (by decide) z)
        refine jr_ic rfl ?_
        refine jr_iret rfl rfl (Nat.zero_le _) (Nat.zero_le _) ?_
        first
          | exact ⟨rfl, hRel0⟩
          | (exfalso; omega)
          | (exfalso; simp (disch := omega) only [Int32.lt_iff_toInt_lt, Int32.le_iff_toInt_le, ← Int32.toInt_inj, Int32.reduceToInt, nI_toInt] at c1 m2MDisIn m5MDisIn; done)
          | (exfalso; simp (disch := omega) only [Int32.lt_iff_toInt_lt, Int32.le_iff_toInt_le, ← Int32.toInt_inj, Int32.reduceToInt, nI_toInt] at c1 m2MDisIn m5MDisIn; omega)
      · refine jr_ic rfl ?_
        refine jr_goto rfl ?_
        refine jr_zret rfl rfl rfl (Nat.zero_le _) (Nat.zero_le _) ?_
        refine jr_if_eq rfl (fun z => absurd z (by decide)) (fun _ => ?_)
        refine jr_aload rfl rfl ?_
        refine jr_getR rfl rfl rfl rfl (Or.inl rfl) ?_
        refine jr_iload rfl rfl ?_
        first
          | (exfalso; omega)
          | (exfalso; simp (disch := omega) only [Int32.lt_iff_toInt_lt, Int32.le_iff_toInt_le, ← Int32.toInt_inj, Int32.reduceToInt, nI_toInt] at c1 m2MDisIn m5MDisIn; done)
          | (exfalso; simp (disch := omega) only [Int32.lt_iff_toInt_lt, Int32.le_iff_toInt_le, ← Int32.toInt_inj, Int32.reduceToInt, nI_toInt] at c1 m2MDisIn m5MDisIn; omega)
  · refine jr_iload rfl rfl ?_
    refine jr_ic rfl ?_
    refine jr_icmp_ge rfl (fun c4 => ?_) (fun c4 => ?_)
    · refine jr_ic rfl ?_
      refine jr_iret rfl rfl (Nat.zero_le _) (Nat.zero_le _) ?_
      show jx_W (jm_MD_back, d + 40, 0, 0, false, 1, _) _ 0 0 0 [some _, some _, none] [] _
      refine jr_iload rfl rfl ?_
      refine jr_ic rfl ?_
      refine jr_ic rfl ?_
      refine jr_cs3 (mc' := 0) (ms' := 0) rfl jm_MD_isIn_n jm_MD_isIn_f rfl rfl rfl rfl rfl (Nat.zero_le _) (Nat.zero_le _) ?_
      show jx_W (jm_MD_isIn, _, _, _, _, _, _) _ 0 0 0 [some _, some _, some _] [] _
      refine jr_iload rfl rfl ?_
      refine jr_iload rfl rfl ?_
      refine jr_icmp_lt rfl (fun m2MDisIn => ?_) (fun m2MDisIn => ?_)
      · refine jr_ic rfl ?_
        refine jr_zret rfl rfl rfl (Nat.zero_le _) (Nat.zero_le _) ?_
        refine jr_if_eq rfl (fun _ => ?_) (fun z => absurd (by decide) z)
        refine jr_ic rfl ?_
        refine jr_iret rfl rfl (Nat.zero_le _) (Nat.zero_le _) ?_
        first
          | exact ⟨rfl, hRel0⟩
          | (exfalso; omega)
          | (exfalso; simp (disch := omega) only [Int32.lt_iff_toInt_lt, Int32.le_iff_toInt_le, ← Int32.toInt_inj, Int32.reduceToInt, nI_toInt] at c1 c4 m2MDisIn; done)
          | (exfalso; simp (disch := omega) only [Int32.lt_iff_toInt_lt, Int32.le_iff_toInt_le, ← Int32.toInt_inj, Int32.reduceToInt, nI_toInt] at c1 c4 m2MDisIn; omega)
      · refine jr_iload rfl rfl ?_
        refine jr_iload rfl rfl ?_
        refine jr_icmp_gt rfl (fun m5MDisIn => ?_) (fun m5MDisIn => ?_)
        · refine jr_ic rfl ?_
          refine jr_zret rfl rfl rfl (Nat.zero_le _) (Nat.zero_le _) ?_
          refine jr_if_eq rfl (fun _ => ?_) (fun z => absurd (by decide) z)
          refine jr_ic rfl ?_
          refine jr_iret rfl rfl (Nat.zero_le _) (Nat.zero_le _) ?_
          first
            | exact ⟨rfl, hRel0⟩
            | (exfalso; omega)
            | (exfalso; simp (disch := omega) only [Int32.lt_iff_toInt_lt, Int32.le_iff_toInt_le, ← Int32.toInt_inj, Int32.reduceToInt, nI_toInt] at c1 c4 m2MDisIn m5MDisIn; done)
            | (exfalso; simp (disch := omega) only [Int32.lt_iff_toInt_lt, Int32.le_iff_toInt_le, ← Int32.toInt_inj, Int32.reduceToInt, nI_toInt] at c1 c4 m2MDisIn m5MDisIn; omega)
        · refine jr_ic rfl ?_
          refine jr_goto rfl ?_
          refine jr_zret rfl rfl rfl (Nat.zero_le _) (Nat.zero_le _) ?_
          refine jr_if_eq rfl (fun z => absurd z (by decide)) (fun _ => ?_)
          refine jr_aload rfl rfl ?_
          refine jr_getR rfl rfl rfl rfl (Or.inl rfl) ?_
          refine jr_iload rfl rfl ?_
          first
            | (exfalso; omega)
            | (exfalso; simp (disch := omega) only [Int32.lt_iff_toInt_lt, Int32.le_iff_toInt_le, ← Int32.toInt_inj, Int32.reduceToInt, nI_toInt] at c1 c4 m2MDisIn m5MDisIn; done)
            | (exfalso; simp (disch := omega) only [Int32.lt_iff_toInt_lt, Int32.le_iff_toInt_le, ← Int32.toInt_inj, Int32.reduceToInt, nI_toInt] at c1 c4 m2MDisIn m5MDisIn; omega)
    · refine jr_aload rfl rfl ?_
      refine jr_getR rfl rfl rfl rfl (Or.inl rfl) ?_
      refine jr_iload rfl rfl ?_
      first
        | (exfalso; omega)
        | (exfalso; simp (disch := omega) only [Int32.lt_iff_toInt_lt, Int32.le_iff_toInt_le, ← Int32.toInt_inj, Int32.reduceToInt, nI_toInt] at c1 c4; done)
        | (exfalso; simp (disch := omega) only [Int32.lt_iff_toInt_lt, Int32.le_iff_toInt_le, ← Int32.toInt_inj, Int32.reduceToInt, nI_toInt] at c1 c4; omega)
theorem pd_back {d : Nat} {hc hm : jx_H} {x : Int32} (hRel : jz_Rel hc hm) : jx_Ev jm_JV_back (d + 40) 0 0 false 0 [jv_r 10 0, jv_i x] hc (fun r hc' => jx_Ev jm_MD_back (d + 40) 0 0 false 1 [jv_r 11 0, jv_i x] hm (fun r' hm' => r = r' ∧ jz_Rel hc' hm')) := by
  by_cases h0 : x = 0
  · subst h0; exact pd_back_0 hRel
  by_cases h1 : x = 1
  · subst h1; exact pd_back_1 hRel
  by_cases h2 : x = 2
  · subst h2; exact pd_back_2 hRel
  exact pd_back_o hRel h0 h1 h2
