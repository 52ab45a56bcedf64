def jl_is (f : Nat → Int32) (R : Nat → Prop) : Prop := ∀ x, x < 156 → (f x = 1 ∧ R x) ∨ (f x = 0 ∧ ¬ R x)
theorem jl_is_iff {f : Nat → Int32} {R R' : Nat → Prop} (h : jl_is f R) (e : ∀ x, x < 156 → (R x ↔ R' x)) : jl_is f R' := fun x hx => by
  rw [← e x hx]; exact h x hx
theorem jl_is_set {f : Nat → Int32} {R : Nat → Prop} {y : Nat} (h : jl_is f R) : jl_is (upd f y 1) (fun x => R x ∨ x = y) := fun x hx => by
  by_cases e : x = y
  · rw [e, jg_us]; exact Or.inl ⟨rfl, Or.inr rfl⟩
  · rw [jg_un e]
    rcases h x hx with ⟨h1, h2⟩ | ⟨h1, h2⟩
    · exact Or.inl ⟨h1, Or.inl h2⟩
    · exact Or.inr ⟨h1, fun z => z.elim h2 e⟩
theorem jl_rch_b {hm : jx_H} {b : Nat} {N : Nat → Int32} (ht : ∀ i, jl_t hm b i ≤ 31) : ∀ i s, jl_rch (jl_f hm b) (jl_A hm b N) i s → s ≤ i * 31
  | 0, s, h => by
    obtain rfl : s = 0 := h
    omega
  | i + 1, s', h => by
    obtain ⟨s, l, h1, h2, h3, rfl⟩ := h
    have := jl_rch_b ht i s h1
    have := @jl_A_le hm b N i s
    have := ht i
    omega
set_option maxHeartbeats 800000 in
set_option maxRecDepth 100000 in
theorem lp_mr0 {d n0 : Nat} {Q : Option jx_V → jx_H → Prop} {h : jx_H} {r M i : Nat} (S : Nat → Nat → Nat → Int32) (s : Nat) (hi : i < 6) (hs : s ≤ 156) (h0 : ∀ x, x < s → S 60 i x = 0) (k : ∀ S' : Nat → Nat → Nat → Int32, (∀ x y, ¬ (x = 60 ∧ y = i) → S' x y = S x y) → (∀ x, x < 156 → S' 60 i x = 0) → jx_W (jm_Led_markReached, d + 3, 0, 0, false, 0, n0) Q 0 0 19 [some (jv_r 4 0), some (jv_r 7 r), some (jv_i (nI M)), some (jv_i (nI i)), some (jv_i (nI 156)), none, none, none] [] (jL h S'))  : jx_W (jm_Led_markReached, d + 3, 0, 0, false, 0, n0) Q 0 0 7 [some (jv_r 4 0), some (jv_r 7 r), some (jv_i (nI M)), some (jv_i (nI i)), some (jv_i (nI s)), none, none, none] [] (jL h S) := by
  refine jr_iload rfl rfl ?_
  refine jr_ic rfl ?_
  refine jr_icmp_ge rfl (fun c9 => ?_) (fun c9 => ?_)
  · have hs2 : s = 156 := by have := jn_le (show nI 156 ≤ nI s from c9) (by decide) (by omega); omega
    subst hs2
    exact k S (fun _ _ _ => rfl) h0
  · have hs1 : s < 156 := jn_nle (show ¬ nI 156 ≤ nI s from c9) (by decide) (by omega)
    refine jr_aload rfl rfl ?_
    refine jr_getR rfl rfl rfl rfl (Or.inl rfl) ?_
    refine jr_iload rfl rfl ?_
    refine jr_aald (so := 7) (len := 6) rfl rfl rfl rfl rfl rfl (by omega) (Or.inl rfl) ?_
    refine jr_iload rfl rfl ?_
    refine jr_ic rfl ?_
    refine jr_iast (len := 156) rfl rfl rfl (by omega) ?_
    simp only [jL_60, jL_r60]
    refine jr_iinc4 rfl rfl ?_
    refine jr_goto rfl ?_
    rw [jn_S]
    refine lp_mr0 _ (s + 1) hi (by omega) (fun x hx => ?_) (fun S' f' => k S' (fun x y z => (f' x y z).trans (jL_un z)))
    rw [jL_us]
    by_cases e : x = s
    · rw [e, jg_us]
    · rw [jg_un e]; exact h0 x (by omega)
termination_by 156 - s
decreasing_by all_goals omega

set_option maxHeartbeats 800000 in
set_option maxRecDepth 100000 in
theorem lp_mr1 {d n0 : Nat} {Q : Option jx_V → jx_H → Prop} {h : jx_H} {r M : Nat} (S : Nat → Nat → Nat → Int32) (i : Nat) (x4 : Option jx_V) (hM : M < 6) (hi : i ≤ M + 1) (h0 : ∀ j, j < i → ∀ x, x < 156 → S 60 j x = 0) (k : ∀ (S' : Nat → Nat → Nat → Int32) (y4 : Option jx_V), (∀ x y, x ≠ 60 → S' x y = S x y) → (∀ j, j < M + 1 → ∀ x, x < 156 → S' 60 j x = 0) → jx_W (jm_Led_markReached, d + 3, 0, 0, false, 0, n0) Q 0 0 21 [some (jv_r 4 0), some (jv_r 7 r), some (jv_i (nI M)), some (jv_i (nI (M + 1))), y4, none, none, none] [] (jL h S'))  : jx_W (jm_Led_markReached, d + 3, 0, 0, false, 0, n0) Q 0 0 2 [some (jv_r 4 0), some (jv_r 7 r), some (jv_i (nI M)), some (jv_i (nI i)), x4, none, none, none] [] (jL h S) := by
  refine jr_iload rfl rfl ?_
  refine jr_iload rfl rfl ?_
  refine jr_icmp_gt rfl (fun c4 => ?_) (fun c4 => ?_)
  · have hi2 : i = M + 1 := by have := jn_lt (show nI M < nI i from c4) (by omega) (by omega); omega
    subst hi2
    exact k S _ (fun _ _ _ => rfl) h0
  · have hi1 : i ≤ M := jn_nlt (show ¬ nI M < nI i from c4) (by omega) (by omega)
    refine jr_ic rfl ?_
    refine jr_ist4 rfl rfl ?_
    refine lp_mr0 S 0 (by omega) (by omega) (fun x hx => absurd hx (by omega)) (fun S1 f1 g1 => ?_)
    refine jr_iinc3 rfl rfl ?_
    refine jr_goto rfl ?_
    rw [jn_S]
    refine lp_mr1 S1 (i + 1) _ hM (by omega) (fun j hj x hx => ?_) (fun S' y4 f' => k S' y4 (fun x y z => (f' x y z).trans (f1 x y (by omega))))
    by_cases e : j = i
    · rw [e]; exact g1 x hx
    · rw [f1 60 j (by omega)]; exact h0 j (by omega) x hx
termination_by M + 1 - i
decreasing_by all_goals omega

set_option maxHeartbeats 800000 in
set_option maxRecDepth 100000 in
theorem lp_mrD {d n0 : Nat} {Q : Option jx_V → jx_H → Prop} {h : jx_H} {r M i s ml : Nat} {x4 : Int32} (S : Nat → Nat → Nat → Int32) (l : Nat) (R : Nat → Prop) (hi : i < 5) (hs : s ≤ i * 31) (hml : ml ≤ 31) (hl : l ≤ 32) (hI : jl_is (S 60 (i + 1)) R) (k : ∀ (S' : Nat → Nat → Nat → Int32) (x7 : Int32), (∀ x y, ¬ (x = 60 ∧ y = i + 1) → S' x y = S x y) → jl_is (S' 60 (i + 1)) (fun x => R x ∨ ∃ l', l ≤ l' ∧ l' ≤ ml ∧ x = s + l') → jx_W (jm_Led_markReached, d + 3, 0, 0, false, 0, n0) Q 0 0 81 [some (jv_r 4 0), some (jv_r 7 r), some (jv_i (nI M)), some (jv_i (nI i)), some (jv_i x4), some (jv_i (nI s)), some (jv_i (nI ml)), some (jv_i x7)] [] (jL h S'))  : jx_W (jm_Led_markReached, d + 3, 0, 0, false, 0, n0) Q 0 0 65 [some (jv_r 4 0), some (jv_r 7 r), some (jv_i (nI M)), some (jv_i (nI i)), some (jv_i x4), some (jv_i (nI s)), some (jv_i (nI ml)), some (jv_i (nI l))] [] (jL h S) := by
  refine jr_iload rfl rfl ?_
  refine jr_iload rfl rfl ?_
  refine jr_icmp_gt rfl (fun c67 => ?_) (fun c67 => ?_)
  · have hl2 : ml < l := jn_lt (show nI ml < nI l from c67) (by omega) (by omega)
    refine k S _ (fun _ _ _ => rfl) (jl_is_iff hI (fun x _ => ⟨Or.inl, ?_⟩))
    rintro (z | ⟨l', z1, z2, z3⟩)
    · exact z
    · omega
  · have hl1 : l ≤ ml := jn_nlt (show ¬ nI ml < nI l from c67) (by omega) (by omega)
    refine jr_aload rfl rfl ?_
    refine jr_getR rfl rfl rfl rfl (Or.inl rfl) ?_
    refine jr_iload rfl rfl ?_
    refine jr_ic rfl ?_
    refine jr_iadd rfl ?_
    refine jr_aald (so := 7) (len := 6) rfl rfl rfl rfl rfl (jn_add rfl (show _ = nI 1 from rfl)) (by omega) (Or.inl rfl) ?_
    refine jr_iload rfl rfl ?_
    refine jr_iload rfl rfl ?_
    refine jr_iadd rfl ?_
    refine jr_ic rfl ?_
    refine jr_iast (len := 156) rfl rfl (jn_add rfl rfl) (by omega) ?_
    simp only [jL_60, jL_r60]
    refine jr_iinc7 rfl rfl ?_
    refine jr_goto rfl ?_
    rw [jn_S]
    refine lp_mrD _ (l + 1) (fun x => R x ∨ x = s + l) hi hs hml (by omega) (by rw [jL_us]; exact jl_is_set hI) (fun S' x7 f' g' => k S' x7 (fun x y z => (f' x y z).trans (jL_un z)) (jl_is_iff g' (fun x _ => ?_)))
    constructor
    · rintro ((z | z) | ⟨l', z1, z2, z3⟩)
      · exact Or.inl z
      · exact Or.inr ⟨l, Nat.le_refl _, hl1, z⟩
      · exact Or.inr ⟨l', by omega, z2, z3⟩
    · rintro (z | ⟨l', z1, z2, z3⟩)
      · exact Or.inl (Or.inl z)
      · by_cases e : l' = l
        · exact Or.inl (Or.inr (by rw [z3, e]))
        · exact Or.inr ⟨l', by omega, z2, z3⟩
termination_by ml + 1 - l
decreasing_by all_goals omega

set_option maxHeartbeats 800000 in
set_option maxRecDepth 100000 in
theorem lp_mrC {d n0 : Nat} {Q : Option jx_V → jx_H → Prop} {h hm : jx_H} {r b M : Nat} {N : Nat → Int32} {i : Nat} (S : Nat → Nat → Nat → Int32) (s : Nat) (x6 x7 : Option jx_V) (hw : jz_W hm b) (hR : jy_R h r hm b) (h0 : 0 < jz_nm hm b) (hN : ∀ e, e ≤ 400 → S 56 0 e = N e) (hi5 : i < 5) (hs : s ≤ i * 31 + 1) (hI0 : jl_is (S 60 i) (jl_rch (jl_f hm b) (jl_A hm b N) i)) (hI : jl_is (S 60 (i + 1)) (fun x => ∃ s' l, s' < s ∧ jl_rch (jl_f hm b) (jl_A hm b N) i s' ∧ jl_f hm b i ≤ l ∧ l ≤ jl_A hm b N i s' ∧ x = s' + l)) (k : ∀ (S' : Nat → Nat → Nat → Int32) (s' : Int32) (y6 y7 : Option jx_V), (∀ x y, ¬ (x = 60 ∧ y = i + 1) → S' x y = S x y) → jl_is (S' 60 (i + 1)) (jl_rch (jl_f hm b) (jl_A hm b N) (i + 1)) → jx_W (jm_Led_markReached, d + 3, 0, 0, false, 0, n0) Q 0 0 83 [some (jv_r 4 0), some (jv_r 7 r), some (jv_i (nI M)), some (jv_i (nI i)), some (jv_i (nI (i % jz_nm hm b))), some (jv_i s'), y6, y7] [] (jL h S'))  : jx_W (jm_Led_markReached, d + 3, 0, 0, false, 0, n0) Q 0 0 39 [some (jv_r 4 0), some (jv_r 7 r), some (jv_i (nI M)), some (jv_i (nI i)), some (jv_i (nI (i % jz_nm hm b))), some (jv_i (nI s)), x6, x7] [] (jL h S) := by
  have hft := jl_ft hw h0 i
  obtain ⟨ft1, ft2, ft3, ft4, ft5⟩ := hft
  have hnm6 := hw.2.2.1.1.2
  refine jr_iload rfl rfl ?_
  refine jr_iload rfl rfl ?_
  refine jr_ic rfl ?_
  refine jr_imul rfl ?_
  rw [show nI i * 31 = nI (i * 31) from jn_mul rfl (jn_c 31)]
  refine jr_icmp_gt rfl (fun c43 => ?_) (fun c43 => ?_)
  · have hs2 : i * 31 < s := jn_lt (show nI (i * 31) < nI s from c43) (by omega) (by omega)
    refine k S _ _ _ (fun _ _ _ => rfl) (jl_is_iff hI (fun x _ => ?_))
    constructor
    · rintro ⟨s', l, z1, z2, z3, z4, z5⟩; exact ⟨s', l, z2, z3, z4, z5⟩
    · rintro ⟨s', l, z2, z3, z4, z5⟩
      have := jl_rch_b (N := N) (fun i => (jl_ft hw h0 i).2.2.2.1) i s' z2
      exact ⟨s', l, by omega, z2, z3, z4, z5⟩
  · have hs1 : s ≤ i * 31 := jn_nlt (show ¬ nI (i * 31) < nI s from c43) (by omega) (by omega)
    refine jr_aload rfl rfl ?_
    refine jr_getR rfl rfl rfl rfl (Or.inl rfl) ?_
    refine jr_iload rfl rfl ?_
    refine jr_aald (so := 7) (len := 6) rfl rfl rfl rfl rfl rfl (by omega) (Or.inl rfl) ?_
    refine jr_iload rfl rfl ?_
    refine jr_iald (len := 156) rfl rfl rfl (by omega) ?_
    refine jr_if_ne rfl (fun c50 => ?_) (fun c50 => ?_)
    · refine jr_aload rfl rfl ?_
      refine jr_iload rfl rfl ?_
      refine jr_iload rfl rfl ?_
      refine jr_aload rfl rfl ?_
      refine jr_iload rfl rfl ?_
      refine jr_cv1 (mc' := 0) (ms' := 0) rfl jm_Rep_mostOf_n jm_Rep_mostOf_f rfl rfl rfl rfl rfl rfl rfl (Nat.zero_le _) (Nat.zero_le _) ?_
      refine ev_Rep_mostOf (hm := hm) (b := b) (m := i % jz_nm hm b) hR hw.2.2.1.1 ft5 ?_
      rw [ft2]
      refine jr_cv3 (mc' := 0) (ms' := 0) rfl jm_Led_longestAgreeing_n jm_Led_longestAgreeing_f rfl rfl rfl rfl rfl rfl rfl (Nat.zero_le _) (Nat.zero_le _) ?_
      refine ev_LA (N := N) hN (by omega) (by omega) ?_
      rw [show jl_la (jl_gg N (i % jz_nm hm b) s) (jl_t hm b i) 1 = jl_A hm b N i s from rfl]
      refine jr_ist6 rfl rfl ?_
      refine jr_aload rfl rfl ?_
      refine jr_iload rfl rfl ?_
      refine jr_cv1 (mc' := 0) (ms' := 0) rfl jm_Rep_leastOf_n jm_Rep_leastOf_f rfl rfl rfl rfl rfl rfl rfl (Nat.zero_le _) (Nat.zero_le _) ?_
      refine ev_Rep_leastOf (hm := hm) (b := b) (m := i % jz_nm hm b) hR hw.2.2.1.1 ft5 ?_
      rw [ft1]
      refine jr_ist7 rfl rfl ?_
      refine lp_mrD S (jl_f hm b i) _ hi5 hs1 (by have := @jl_A_le hm b N i s; omega) (by omega) hI (fun S1 x7 f1 g1 => ?_)
      refine jr_iinc5 rfl rfl ?_
      refine jr_goto rfl ?_
      rw [jn_S]
      refine lp_mrC S1 (s + 1) _ _ hw hR h0 (fun e he => (congrFun (f1 56 0 (by omega)) e).trans (hN e he)) hi5 (by omega) (by rw [f1 60 i (by omega)]; exact hI0) (jl_is_iff g1 (fun x _ => ?_)) (fun S' s' y6 y7 f' => k S' s' y6 y7 (fun x y z => (f' x y z).trans (f1 x y z)))
      have hnr : jl_rch (jl_f hm b) (jl_A hm b N) i s := by
        rcases hI0 s (by omega) with ⟨-, z2⟩ | ⟨z1, -⟩
        · exact z2
        · exact absurd z1 c50
      constructor
      · rintro (⟨s', l, z1, z2, z3, z4, z5⟩ | ⟨l, z1, z2, z3⟩)
        · exact ⟨s', l, by omega, z2, z3, z4, z5⟩
        · exact ⟨s, l, by omega, hnr, z1, z2, z3⟩
      · rintro ⟨s', l, z1, z2, z3, z4, z5⟩
        by_cases e : s' = s
        · rw [e] at z4 z5; exact Or.inr ⟨l, z3, z4, z5⟩
        · exact Or.inl ⟨s', l, by omega, z2, z3, z4, z5⟩
    · refine jr_ic rfl ?_
      refine jr_goto rfl ?_
      refine jr_ist6 rfl rfl ?_
      refine jr_aload rfl rfl ?_
      refine jr_iload rfl rfl ?_
      refine jr_cv1 (mc' := 0) (ms' := 0) rfl jm_Rep_leastOf_n jm_Rep_leastOf_f rfl rfl rfl rfl rfl rfl rfl (Nat.zero_le _) (Nat.zero_le _) ?_
      refine ev_Rep_leastOf (hm := hm) (b := b) (m := i % jz_nm hm b) hR hw.2.2.1.1 ft5 ?_
      rw [ft1]
      refine jr_ist7 rfl rfl ?_
      refine jr_iload rfl rfl ?_
      refine jr_iload rfl rfl ?_
      refine jr_icmp_gt rfl (fun _ => ?_) (fun z => absurd (show (-1 : Int32) < nI (jl_f hm b i) from by rw [Int32.lt_iff_toInt_lt, nI_toInt (by omega)]; exact Int.lt_of_lt_of_le (by decide) (Int.natCast_nonneg _)) z)
      refine jr_iinc5 rfl rfl ?_
      refine jr_goto rfl ?_
      rw [jn_S]
      refine lp_mrC S (s + 1) _ _ hw hR h0 hN hi5 (by omega) hI0 (jl_is_iff hI (fun x _ => ?_)) k
      have hnr : ¬ jl_rch (jl_f hm b) (jl_A hm b N) i s := by
        rcases hI0 s (by omega) with ⟨z1, -⟩ | ⟨-, z2⟩
        · exact absurd (z1.symm.trans c50) (by decide)
        · exact z2
      constructor
      · rintro ⟨s', l, z1, z2, z3, z4, z5⟩; exact ⟨s', l, by omega, z2, z3, z4, z5⟩
      · rintro ⟨s', l, z1, z2, z3, z4, z5⟩
        by_cases e : s' = s
        · rw [e] at z2; exact absurd z2 hnr
        · exact ⟨s', l, by omega, z2, z3, z4, z5⟩
termination_by i * 31 + 1 - s
decreasing_by all_goals omega

set_option maxHeartbeats 800000 in
set_option maxRecDepth 100000 in
theorem lp_mrB {d n0 : Nat} {Q : Option jx_V → jx_H → Prop} {h hm : jx_H} {r b M : Nat} {N : Nat → Int32} (S : Nat → Nat → Nat → Int32) (i : Nat) (x4 x5 x6 x7 : Option jx_V) (hw : jz_W hm b) (hR : jy_R h r hm b) (h0 : 0 < jz_nm hm b) (hN : ∀ e, e ≤ 400 → S 56 0 e = N e) (hM : M ≤ 5) (hi : i ≤ M) (hJ : ∀ j, j ≤ i → jl_is (S 60 j) (jl_rch (jl_f hm b) (jl_A hm b N) j)) (hZ : ∀ j, i < j → j ≤ M → ∀ x, x < 156 → S 60 j x = 0) (k : ∀ S' : Nat → Nat → Nat → Int32, (∀ x y, x ≠ 60 → S' x y = S x y) → (∀ j, j ≤ M → jl_is (S' 60 j) (jl_rch (jl_f hm b) (jl_A hm b N) j)) → Q none (jL h S'))  : jx_W (jm_Led_markReached, d + 3, 0, 0, false, 0, n0) Q 0 0 30 [some (jv_r 4 0), some (jv_r 7 r), some (jv_i (nI M)), some (jv_i (nI i)), x4, x5, x6, x7] [] (jL h S) := by
  have hnm6 := hw.2.2.1.1.2
  refine jr_iload rfl rfl ?_
  refine jr_iload rfl rfl ?_
  refine jr_icmp_ge rfl (fun c32 => ?_) (fun c32 => ?_)
  · refine jr_vret rfl rfl (Nat.zero_le _) (Nat.zero_le _) ?_
    have hi2 : i = M := by have := jn_le (show nI M ≤ nI i from c32) (by omega) (by omega); omega
    subst hi2
    exact k S (fun _ _ _ => rfl) hJ
  · have hi1 : i < M := jn_nle (show ¬ nI M ≤ nI i from c32) (by omega) (by omega)
    refine jr_aload rfl rfl ?_
    refine jr_iload rfl rfl ?_
    refine jr_cs2 (mc' := 0) (ms' := 0) rfl jm_Led_monthAt_n jm_Led_monthAt_f rfl rfl rfl rfl rfl (Nat.zero_le _) (Nat.zero_le _) ?_
    refine ev_monthAt (hm := hm) (b := b) (i := i) hw hR h0 (by omega) ?_
    refine jr_ist4 rfl rfl ?_
    refine jr_ic rfl ?_
    refine jr_ist5 rfl rfl ?_
    refine lp_mrC (N := N) S 0 _ _ hw hR h0 hN (by omega) (by omega) (hJ i (Nat.le_refl _)) (fun x hx => Or.inr ⟨hZ (i + 1) (by omega) (by omega) x hx, ?_⟩) (fun S1 s1 y6 y7 f1 g1 => ?_)
    · rintro ⟨s', l, z1, -⟩
      omega
    · refine jr_iinc3 rfl rfl ?_
      refine jr_goto rfl ?_
      rw [jn_S]
      refine lp_mrB S1 (i + 1) _ _ _ _ hw hR h0 (fun e he => (congrFun (f1 56 0 (by omega)) e).trans (hN e he)) hM (by omega) (fun j hj => ?_) (fun j h1 h2 x hx => ?_) (fun S' f' => k S' (fun x y z => (f' x y z).trans (f1 x y (by omega))))
      · by_cases e : j = i + 1
        · rw [e]; exact g1
        · rw [f1 60 j (by omega)]; exact hJ j (by omega)
      · rw [f1 60 j (by omega)]; exact hZ j (by omega) h2 x hx
termination_by M - i
decreasing_by all_goals omega

set_option maxHeartbeats 800000 in
set_option maxRecDepth 100000 in
theorem ev_markReached {d : Nat} {h : jx_H} {Q : Option jx_V → jx_H → Prop} {hm : jx_H} {r b M : Nat} {N : Nat → Int32} {S : Nat → Nat → Nat → Int32} (hw : jz_W hm b) (hR : jy_R h r hm b) (h0 : 0 < jz_nm hm b) (hN : ∀ e, e ≤ 400 → S 56 0 e = N e) (hM : M ≤ 4) (k : ∀ S' : Nat → Nat → Nat → Int32, (∀ x y, x ≠ 60 → S' x y = S x y) → (∀ j, j ≤ M → jl_is (S' 60 j) (jl_rch (jl_f hm b) (jl_A hm b N) j)) → Q none (jL h S'))  : jx_Ev jm_Led_markReached (d + 3) 0 0 false 0 [jv_r 4 0, jv_r 7 r, jv_i (nI M)] (jL h S) Q := by
  show jx_W (jm_Led_markReached, d + 3, 0, 0, false, 0, _) Q 0 0 0 [some (jv_r 4 0), some (jv_r 7 r), some (jv_i (nI M)), none, none, none, none, none] [] _
  refine jr_ic rfl ?_
  refine jr_ist3 rfl rfl ?_
  refine lp_mr1 S 0 _ (by omega) (by omega) (fun j hj => absurd hj (by omega)) (fun S1 y4 f1 g1 => ?_)
  refine jr_aload rfl rfl ?_
  refine jr_getR rfl rfl rfl rfl (Or.inl rfl) ?_
  refine jr_ic rfl ?_
  refine jr_aald (so := 7) (len := 6) rfl rfl rfl rfl rfl (show _ = nI 0 from rfl) (by decide) (Or.inl rfl) ?_
  refine jr_ic rfl ?_
  refine jr_ic rfl ?_
  refine jr_iast (len := 156) rfl rfl (show _ = nI 0 from rfl) (by decide) ?_
  simp only [jL_60, jL_r60]
  refine jr_ic rfl ?_
  refine jr_ist3 rfl rfl ?_
  refine lp_mrB (N := N) (jL_up S1 60 0 (upd (S1 60 0) 0 1)) 0 _ _ _ _ hw hR h0 (fun e he => (congrFun (f1 56 0 (by omega)) e).trans (hN e he)) (by omega) (by omega) (fun j hj x hx => ?_) (fun j h1 h2 x hx => ?_) (fun S' f' => k S' (fun x y z => (f' x y z).trans ((jL_un (by omega)).trans (f1 x y z))))
  · obtain rfl : j = 0 := by omega
    rw [jL_us]
    by_cases e : x = 0
    · rw [e, jg_us]; exact Or.inl ⟨rfl, rfl⟩
    · rw [jg_un e]; exact Or.inr ⟨g1 0 (by omega) x hx, e⟩
  · rw [jL_un (by omega)]; exact g1 j (by omega) x hx

