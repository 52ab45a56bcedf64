set_option maxHeartbeats 800000 in
set_option maxRecDepth 100000 in
theorem lp_cbA {d n0 : Nat} {Q : Option jx_V → jx_H → Prop} {h : jx_H} {r m lst : Nat} (S : Nat → Nat → Nat → Int32) (s : Nat) (h7 : S 4 0 7 = nI m) (hm5 : m ≤ 5) (h6 : (S 4 0 6).toInt = (lst : Int) - 1) (hs : s ≤ 156) (hA : ∀ x, x < s → S 58 m x = nI (if lst ≤ x then 1 else 0)) (k : ∀ S' : Nat → Nat → Nat → Int32, (∀ x y, ¬ (x = 58 ∧ y = m) → S' x y = S x y) → (∀ x, x < 156 → S' 58 m x = nI (if lst ≤ x then 1 else 0)) → jx_W (jm_Led_countBehind, d + 3, 0, 0, false, 0, n0) Q 0 0 21 [some (jv_r 4 0), some (jv_r 7 r), some (jv_i (nI 156)), none, none, none, none, none] [] (jL h S'))  : jx_W (jm_Led_countBehind, d + 3, 0, 0, false, 0, n0) Q 0 0 2 [some (jv_r 4 0), some (jv_r 7 r), some (jv_i (nI s)), none, none, none, none, none] [] (jL h S) := by
  refine jr_iload rfl rfl ?_
  refine jr_ic rfl ?_
  refine jr_icmp_ge rfl (fun c4 => ?_) (fun c4 => ?_)
  · have hs2 : s = 156 := by have := jn_le (show nI 156 ≤ nI s from c4) (by decide) (by omega); omega
    subst hs2
    exact k S (fun _ _ _ => rfl) hA
  · have hs1 : s < 156 := jn_nle (show ¬ nI 156 ≤ nI s from c4) (by decide) (by omega)
    refine jr_aload rfl rfl ?_
    refine jr_getR rfl rfl rfl rfl (Or.inl rfl) ?_
    refine jr_aload rfl rfl ?_
    refine jr_getI rfl rfl ?_
    refine jr_aald (so := 7) (len := 6) rfl rfl rfl rfl rfl h7 (by omega) (Or.inl rfl) ?_
    refine jr_iload rfl rfl ?_
    refine jr_iload rfl rfl ?_
    refine jr_aload rfl rfl ?_
    refine jr_getI rfl rfl ?_
    refine jr_icmp_le rfl (fun c14 => ?_) (fun c14 => ?_)
    · refine jr_ic rfl ?_
      refine jr_iast (len := 156) rfl rfl rfl (by omega) ?_
      simp only [jL_58, jL_r58]
      refine jr_iinc2 rfl rfl ?_
      refine jr_goto rfl ?_
      rw [jn_S]
      refine lp_cbA _ (s + 1) h7 hm5 h6 (by omega) (fun x hx => ?_) (fun S' f' => k S' (fun x y z => (f' x y z).trans (jL_un z)))
      rw [jL_us]
      by_cases e : x = s
      · rw [e, jg_us]
        have c14 : nI s ≤ S 4 0 6 := c14
        rw [Int32.le_iff_toInt_le, nI_toInt (by omega)] at c14
        rw [if_neg (show ¬ lst ≤ s by omega)]
        rfl
      · rw [jg_un e]; exact hA x (by omega)
    · refine jr_ic rfl ?_
      refine jr_goto rfl ?_
      refine jr_iast (len := 156) rfl rfl rfl (by omega) ?_
      simp only [jL_58, jL_r58]
      refine jr_iinc2 rfl rfl ?_
      refine jr_goto rfl ?_
      rw [jn_S]
      refine lp_cbA _ (s + 1) h7 hm5 h6 (by omega) (fun x hx => ?_) (fun S' f' => k S' (fun x y z => (f' x y z).trans (jL_un z)))
      rw [jL_us]
      by_cases e : x = s
      · rw [e, jg_us]
        have c14 : ¬ nI s ≤ S 4 0 6 := c14
        rw [Int32.le_iff_toInt_le, nI_toInt (by omega)] at c14
        rw [if_pos (show lst ≤ s by omega)]
        rfl
      · rw [jg_un e]; exact hA x (by omega)
termination_by 156 - s
decreasing_by all_goals omega

set_option maxHeartbeats 800000 in
set_option maxRecDepth 100000 in
theorem lp_cbD {d n0 : Nat} {Q : Option jx_V → jx_H → Prop} {h : jx_H} {r i s ml : Nat} {x3 : Int32} {F : Nat → Nat} {S : Nat → Nat → Nat → Int32} (l a : Nat) (hi : i < 5) (hs : s ≤ i * 31) (hml : ml ≤ 31) (hl : l ≤ 32) (hF : ∀ x, x ≤ (i + 1) * 31 → S 58 (i + 1) x = nI (F x)) (k : ∀ x7, jx_W (jm_Led_countBehind, d + 3, 0, 0, false, 0, n0) Q 0 0 71 [some (jv_r 4 0), some (jv_r 7 r), some (jv_i (nI i)), some (jv_i x3), some (jv_i (nI s)), some (jv_i (nI ml)), some (jv_i (nI (a + jl_sum (fun l => F (s + l)) (ml + 1 - l) l))), some (jv_i x7)] [] (jL h S))  : jx_W (jm_Led_countBehind, d + 3, 0, 0, false, 0, n0) Q 0 0 53 [some (jv_r 4 0), some (jv_r 7 r), some (jv_i (nI i)), some (jv_i x3), some (jv_i (nI s)), some (jv_i (nI ml)), some (jv_i (nI a)), some (jv_i (nI l))] [] (jL h S) := by
  refine jr_iload rfl rfl ?_
  refine jr_iload rfl rfl ?_
  refine jr_icmp_gt rfl (fun c55 => ?_) (fun c55 => ?_)
  · have hl2 : ml < l := jn_lt (show nI ml < nI l from c55) (by omega) (by omega)
    rw [show ml + 1 - l = 0 by omega] at k
    exact k _
  · have hl1 : l ≤ ml := jn_nlt (show ¬ nI ml < nI l from c55) (by omega) (by omega)
    rw [show ml + 1 - l = (ml + 1 - (l + 1)) + 1 by omega, jl_sum, ← Nat.add_assoc] at k
    refine jr_iload rfl rfl ?_
    refine jr_aload rfl rfl ?_
    refine jr_getR rfl rfl rfl rfl (Or.inl rfl) ?_
    refine jr_iload rfl rfl ?_
    refine jr_ic rfl ?_
    refine jr_iadd rfl ?_
    refine jr_aald (so := 7) (len := 6) rfl rfl rfl rfl rfl (jn_add rfl (show _ = nI 1 from rfl)) (by omega) (Or.inl rfl) ?_
    refine jr_iload rfl rfl ?_
    refine jr_iload rfl rfl ?_
    refine jr_iadd rfl ?_
    refine jr_iald (len := 156) rfl rfl (jn_add rfl rfl) (by omega) ?_
    rw [show jh_I (jL h S) 58 (i + 1) (s + l) = nI (F (s + l)) from hF _ (by omega)]
    refine jr_iadd rfl ?_
    refine jr_ist6 rfl rfl ?_
    refine jr_iinc7 rfl rfl ?_
    refine jr_goto rfl ?_
    rw [show nI a + nI (F (s + l)) = nI (a + F (s + l)) from nI_add _ _, jn_S]
    exact lp_cbD (l + 1) _ hi hs hml (by omega) hF k
termination_by ml + 1 - l
decreasing_by all_goals omega

theorem jl_T_s {hm : jx_H} {b lst m i s : Nat} {N : Nat → Int32} (hi : i < m) : jl_T hm b N lst (m - i) i s = 0 + jl_sum (fun l => jl_T hm b N lst (m - (i + 1)) (i + 1) (s + l)) (jl_A hm b N i s + 1 - jl_f hm b i) (jl_f hm b i) := by
  rw [show m - i = m - (i + 1) + 1 by omega, Nat.zero_add]
  rfl
set_option maxHeartbeats 800000 in
set_option maxRecDepth 100000 in
theorem lp_cbC {d n0 : Nat} {Q : Option jx_V → jx_H → Prop} {h hm : jx_H} {r b m lst : Nat} {N : Nat → Int32} {i : Nat} (S : Nat → Nat → Nat → Int32) (s : Nat) (x5 x6 x7 : Option jx_V) (hw : jz_W hm b) (hR : jy_R h r hm b) (h0 : 0 < jz_nm hm b) (hN : ∀ e, e ≤ 400 → S 56 0 e = N e) (hi : i < m) (hm5 : m ≤ 5) (hs : s ≤ i * 31 + 1) (hF : ∀ x, x ≤ (i + 1) * 31 → S 58 (i + 1) x = nI (jl_T hm b N lst (m - (i + 1)) (i + 1) (x))) (hB : ∀ x, x < s → S 58 i x = nI (jl_T hm b N lst (m - i) (i) (x))) (k : ∀ (S' : Nat → Nat → Nat → Int32) (s' : Int32) (y5 y6 y7 : Option jx_V), (∀ x y, ¬ (x = 58 ∧ y = i) → S' x y = S x y) → (∀ x, x ≤ i * 31 → S' 58 i x = nI (jl_T hm b N lst (m - i) (i) (x))) → jx_W (jm_Led_countBehind, d + 3, 0, 0, false, 0, n0) Q 0 0 80 [some (jv_r 4 0), some (jv_r 7 r), some (jv_i (nI i)), some (jv_i (nI (i % jz_nm hm b))), some (jv_i s'), y5, y6, y7] [] (jL h S'))  : jx_W (jm_Led_countBehind, d + 3, 0, 0, false, 0, n0) Q 0 0 34 [some (jv_r 4 0), some (jv_r 7 r), some (jv_i (nI i)), some (jv_i (nI (i % jz_nm hm b))), some (jv_i (nI s)), x5, x6, x7] [] (jL h S) := by
  have hft := jl_ft hw h0 i
  obtain ⟨ft1, ft2, ft3, ft4, ft5⟩ := hft
  have hnm6 := hw.2.2.1.1.2
  have hi5 : i < 5 := by omega
  refine jr_iload rfl rfl ?_
  refine jr_iload rfl rfl ?_
  refine jr_ic rfl ?_
  refine jr_imul rfl ?_
  rw [show nI i * 31 = nI (i * 31) from jn_mul rfl (jn_c 31)]
  refine jr_icmp_gt rfl (fun c38 => ?_) (fun c38 => ?_)
  · have hs2 : i * 31 < s := jn_lt (show nI (i * 31) < nI s from c38) (by omega) (by omega)
    exact k S _ _ _ _ (fun _ _ _ => rfl) (fun x hx => hB x (by omega))
  · have hs1 : s ≤ i * 31 := jn_nlt (show ¬ nI (i * 31) < nI s from c38) (by omega) (by omega)
    refine jr_aload rfl rfl ?_
    refine jr_iload rfl rfl ?_
    refine jr_iload rfl rfl ?_
    refine jr_aload rfl rfl ?_
    refine jr_iload rfl rfl ?_
    refine jr_cv1 (mc' := 0) (ms' := 0) rfl jm_Rep_mostOf_n jm_Rep_mostOf_f rfl rfl rfl rfl rfl rfl rfl (Nat.zero_le _) (Nat.zero_le _) ?_
    refine ev_Rep_mostOf (hm := hm) (b := b) (m := i % jz_nm hm b) hR hw.2.2.1.1 ft5 ?_
    rw [ft2]
    refine jr_cv3 (mc' := 0) (ms' := 0) rfl jm_Led_longestAgreeing_n jm_Led_longestAgreeing_f rfl rfl rfl rfl rfl rfl rfl (Nat.zero_le _) (Nat.zero_le _) ?_
    refine ev_LA (N := N) hN (by omega) (by omega) ?_
    rw [show jl_la (jl_gg N (i % jz_nm hm b) s) (jl_t hm b i) 1 = jl_A hm b N i s from rfl]
    refine jr_ist5 rfl rfl ?_
    refine jr_ic rfl ?_
    refine jr_ist6 rfl rfl ?_
    refine jr_aload rfl rfl ?_
    refine jr_iload rfl rfl ?_
    refine jr_cv1 (mc' := 0) (ms' := 0) rfl jm_Rep_leastOf_n jm_Rep_leastOf_f rfl rfl rfl rfl rfl rfl rfl (Nat.zero_le _) (Nat.zero_le _) ?_
    refine ev_Rep_leastOf (hm := hm) (b := b) (m := i % jz_nm hm b) hR hw.2.2.1.1 ft5 ?_
    rw [ft1]
    refine jr_ist7 rfl rfl ?_
    refine lp_cbD (F := fun x => jl_T hm b N lst (m - (i + 1)) (i + 1) x) (jl_f hm b i) 0 hi5 hs1 (by have := @jl_A_le hm b N i s; omega) (by omega) hF (fun x7 => ?_)
    refine jr_aload rfl rfl ?_
    refine jr_getR rfl rfl rfl rfl (Or.inl rfl) ?_
    refine jr_iload rfl rfl ?_
    refine jr_aald (so := 7) (len := 6) rfl rfl rfl rfl rfl rfl (by omega) (Or.inl rfl) ?_
    refine jr_iload rfl rfl ?_
    refine jr_iload rfl rfl ?_
    refine jr_iast (len := 156) rfl rfl rfl (by omega) ?_
    simp only [jL_58, jL_r58]
    refine jr_iinc4 rfl rfl ?_
    refine jr_goto rfl ?_
    rw [jn_S, ← jl_T_s hi]
    refine lp_cbC _ (s + 1) _ _ _ hw hR h0 hN hi hm5 (by omega) (fun x hx => (congrFun (jL_un (by omega)) x).trans (hF x hx)) (fun x hx => ?_) (fun S' s' y5 y6 y7 f' => k S' s' y5 y6 y7 (fun x y z => (f' x y z).trans (jL_un z)))
    rw [jL_us]
    by_cases e : x = s
    · rw [e, jg_us]
    · rw [jg_un e]; exact hB x (by omega)
termination_by i * 31 + 1 - s
decreasing_by all_goals omega

set_option maxHeartbeats 800000 in
set_option maxRecDepth 100000 in
theorem lp_cbB {d n0 : Nat} {Q : Option jx_V → jx_H → Prop} {h hm : jx_H} {r b m lst : Nat} {N : Nat → Int32} (S : Nat → Nat → Nat → Int32) (i : Nat) (x3 x4 x5 x6 x7 : Option jx_V) (hw : jz_W hm b) (hR : jy_R h r hm b) (h0 : 0 < jz_nm hm b) (hN : ∀ e, e ≤ 400 → S 56 0 e = N e) (hi : i < m) (hm5 : m ≤ 5) (hT : ∀ j, i < j → j ≤ m → ∀ x, x ≤ j * 31 → S 58 j x = nI (jl_T hm b N lst (m - j) (j) (x))) (k : ∀ S' : Nat → Nat → Nat → Int32, (∀ x y, x ≠ 58 → S' x y = S x y) → (∀ j, j ≤ m → ∀ x, x ≤ j * 31 → S' 58 j x = nI (jl_T hm b N lst (m - j) (j) (x))) → Q none (jL h S'))  : jx_W (jm_Led_countBehind, d + 3, 0, 0, false, 0, n0) Q 0 0 26 [some (jv_r 4 0), some (jv_r 7 r), some (jv_i (nI i)), x3, x4, x5, x6, x7] [] (jL h S) := by
  refine jr_iload rfl rfl ?_
  refine jr_if_lt rfl (fun z => absurd z (nI_pos (by omega))) (fun _ => ?_)
  refine jr_aload rfl rfl ?_
  refine jr_iload rfl rfl ?_
  refine jr_cs2 (mc' := 0) (ms' := 0) rfl jm_Led_monthAt_n jm_Led_monthAt_f rfl rfl rfl rfl rfl (Nat.zero_le _) (Nat.zero_le _) ?_
  refine ev_monthAt (hm := hm) (b := b) (i := i) hw hR h0 (by omega) ?_
  refine jr_ist3 rfl rfl ?_
  refine jr_ic rfl ?_
  refine jr_ist4 rfl rfl ?_
  refine lp_cbC (lst := lst) (N := N) S 0 _ _ _ hw hR h0 hN hi hm5 (by omega) (hT (i + 1) (by omega) (by omega)) (fun x hx => absurd hx (by omega)) (fun S1 s1 y5 y6 y7 f1 g1 => ?_)
  refine jr_iinc2 rfl rfl ?_
  refine jr_goto rfl ?_
  have hT1 : ∀ j, i ≤ j → j ≤ m → ∀ x, x ≤ j * 31 → S1 58 j x = nI (jl_T hm b N lst (m - j) (j) (x)) := fun j h1 h2 x hx => by
    by_cases e : j = i
    · rw [e] at hx ⊢; exact g1 x hx
    · rw [f1 58 j (by omega)]; exact hT j (by omega) h2 x hx
  rcases Nat.eq_zero_or_pos i with e | e
  · refine jr_iload rfl rfl ?_
    refine jr_if_lt rfl (fun _ => ?_) (fun z => absurd (show nI i + (-1) < 0 by rw [e]; decide) z)
    refine jr_vret rfl rfl (Nat.zero_le _) (Nat.zero_le _) ?_
    exact k S1 (fun x y z => f1 x y (by omega)) (fun j h2 x hx => hT1 j (by omega) h2 x hx)
  · rw [jn_dec e]
    exact lp_cbB S1 (i - 1) _ _ _ _ _ hw hR h0 (fun e he => (congrFun (f1 56 0 (by omega)) e).trans (hN e he)) (by omega) hm5 (fun j h1 h2 => hT1 j (by omega) h2) (fun S' f' => k S' (fun x y z => (f' x y z).trans (f1 x y (by omega))))
termination_by i
decreasing_by all_goals omega

set_option maxHeartbeats 800000 in
set_option maxRecDepth 100000 in
theorem ev_countBehind {d : Nat} {h : jx_H} {Q : Option jx_V → jx_H → Prop} {hm : jx_H} {r b m lst : Nat} {N : Nat → Int32} {S : Nat → Nat → Nat → Int32} (hw : jz_W hm b) (hR : jy_R h r hm b) (h0 : 0 < jz_nm hm b) (hN : ∀ e, e ≤ 400 → S 56 0 e = N e) (h7 : S 4 0 7 = nI m) (hm5 : m ≤ 5) (hm1 : 1 ≤ m) (h6 : (S 4 0 6).toInt = (lst : Int) - 1) (k : ∀ S' : Nat → Nat → Nat → Int32, (∀ x y, x ≠ 58 → S' x y = S x y) → (∀ j, j ≤ m → ∀ x, x ≤ j * 31 → S' 58 j x = nI (jl_T hm b N lst (m - j) (j) (x))) → Q none (jL h S'))  : jx_Ev jm_Led_countBehind (d + 3) 0 0 false 0 [jv_r 4 0, jv_r 7 r] (jL h S) Q := by
  show jx_W (jm_Led_countBehind, d + 3, 0, 0, false, 0, _) Q 0 0 0 [some (jv_r 4 0), some (jv_r 7 r), none, none, none, none, none, none] [] _
  refine jr_ic rfl ?_
  refine jr_ist2 rfl rfl ?_
  refine lp_cbA (lst := lst) S 0 h7 hm5 h6 (by omega) (fun x hx => absurd hx (by omega)) (fun S1 f1 g1 => ?_)
  refine jr_aload rfl rfl ?_
  refine jr_getI rfl rfl ?_
  refine jr_ic rfl ?_
  refine jr_isub rfl ?_
  refine jr_ist2 rfl rfl ?_
  rw [show jh_I (jL h S1) 4 0 7 - 1 = nI (m - 1) from jn_sub ((congrFun (f1 4 0 (by omega)) 7).trans h7) (jn_c 1) hm1]
  refine lp_cbB (lst := lst) S1 (m - 1) _ _ _ _ _ hw hR h0 (fun e he => (congrFun (f1 56 0 (by omega)) e).trans (hN e he)) (by omega) hm5 (fun j h1 h2 x hx => ?_) (fun S' f' => k S' (fun x y z => (f' x y z).trans (f1 x y (by omega))))
  obtain rfl : j = m := by omega
  rw [g1 x (by omega), Nat.sub_self]
  rfl

