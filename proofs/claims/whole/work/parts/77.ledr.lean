/-- the least or the most of what was seen -/
def jl_bm (mst best : Int32) (Seen : Nat → Prop) : Prop := (best = -1 ∧ ∀ l, ¬ Seen l) ∨ ∃ w, best = nI w ∧ w ≤ 31 ∧ Seen w ∧ ∀ l, Seen l → if mst = 0 then w ≤ l else l ≤ w
theorem jl_bm_iff {mst best : Int32} {R R' : Nat → Prop} (h : jl_bm mst best R) (e : ∀ l, R l ↔ R' l) : jl_bm mst best R' := by
  rw [show R' = R from funext fun l => propext (e l).symm]; exact h
theorem jl_bm_new {mst best : Int32} {R : Nat → Prop} {l : Nat} (hl : l ≤ 31) (h : jl_bm mst best R) (hc : best = -1 ∨ (mst = 0 ∧ nI l < best) ∨ (¬ mst = 0 ∧ best < nI l)) : jl_bm mst (nI l) (fun x => R x ∨ x = l) := by
  refine Or.inr ⟨l, rfl, hl, Or.inr rfl, fun x hx => ?_⟩
  rcases h with ⟨h1, h2⟩ | ⟨w, h1, h2, h3, h4⟩
  · rcases hx with hx | hx
    · exact absurd hx (h2 x)
    · subst hx; split <;> exact Nat.le_refl _
  · rcases hx with hx | hx
    · have h5 := h4 x hx
      rcases hc with hc | ⟨hc, hc2⟩ | ⟨hc, hc2⟩
      · rw [h1] at hc; exact absurd hc (jl_m1 (by omega))
      · rw [if_pos hc] at h5 ⊢
        rw [h1] at hc2
        have := jn_lt hc2 (by omega) (by omega)
        omega
      · rw [if_neg hc] at h5 ⊢
        rw [h1] at hc2
        have := jn_lt hc2 (by omega) (by omega)
        omega
    · subst hx; split <;> exact Nat.le_refl _
theorem jl_bm_old {mst best : Int32} {R : Nat → Prop} {l : Nat} (hl : l ≤ 31) (h : jl_bm mst best R) (hb : ¬ best = -1) (hc : (mst = 0 ∧ best ≤ nI l) ∨ (¬ mst = 0 ∧ nI l ≤ best)) : jl_bm mst best (fun x => R x ∨ x = l) := by
  rcases h with ⟨h1, h2⟩ | ⟨w, h1, h2, h3, h4⟩
  · exact absurd h1 hb
  · refine Or.inr ⟨w, h1, h2, Or.inl h3, fun x hx => ?_⟩
    rcases hx with hx | hx
    · exact h4 x hx
    · subst hx
      rw [h1] at hc
      rcases hc with ⟨hc, hc2⟩ | ⟨hc, hc2⟩
      · rw [if_pos hc]; exact jn_le hc2 (by omega) (by omega)
      · rw [if_neg hc]; exact jn_le hc2 (by omega) (by omega)
theorem jl_bm_u {mst x y : Int32} {R : Nat → Prop} (h : jl_bm mst x R) (h' : jl_bm mst y R) : x = y := by
  rcases h with ⟨h1, h2⟩ | ⟨w, h1, h2, h3, h4⟩
  · rcases h' with ⟨g1, g2⟩ | ⟨v, g1, g2, g3, g4⟩
    · rw [h1, g1]
    · exact absurd g3 (h2 v)
  · rcases h' with ⟨g1, g2⟩ | ⟨v, g1, g2, g3, g4⟩
    · exact absurd h3 (g2 w)
    · have a1 := h4 v g3
      have a2 := g4 w h3
      rw [h1, g1]
      refine congrArg nI ?_
      split at a1 <;> rename_i z
      · rw [if_pos z] at a2; omega
      · rw [if_neg z] at a2; omega
set_option maxHeartbeats 800000 in
set_option maxRecDepth 100000 in
theorem lp_kl {d n0 : Nat} {Q : Option jx_V → jx_H → Prop} {h : jx_H} {r i s lg : Nat} {mst x5 : Int32} {F : Nat → Nat} {S : Nat → Nat → Nat → Int32} (l : Nat) (best : Int32) (R : Nat → Prop) (hi : i < 5) (hs : s ≤ i * 31) (hlg : lg ≤ 31) (hl : l ≤ 32) (hF : ∀ x, x ≤ (i + 1) * 31 → S 58 (i + 1) x = nI (F x)) (hFb : ∀ x, x ≤ (i + 1) * 31 → F x < 2 ^ 31) (hB : jl_bm mst best R) (k : ∀ (b' : Int32) (x8 : Int32), jl_bm mst b' (fun x => R x ∨ (l ≤ x ∧ x ≤ lg ∧ 0 < F (s + x))) → jx_W (jm_Led_knownLength, d + 3, 0, 0, false, 0, n0) Q 0 0 76 [some (jv_r 4 0), some (jv_r 7 r), some (jv_i (nI i)), some (jv_i mst), some (jv_i b'), some (jv_i x5), some (jv_i (nI s)), some (jv_i (nI lg)), some (jv_i x8)] [] (jL h S))  : jx_W (jm_Led_knownLength, d + 3, 0, 0, false, 0, n0) Q 0 0 46 [some (jv_r 4 0), some (jv_r 7 r), some (jv_i (nI i)), some (jv_i mst), some (jv_i best), some (jv_i x5), some (jv_i (nI s)), some (jv_i (nI lg)), some (jv_i (nI l))] [] (jL h S) := by
  refine jr_iload rfl rfl ?_
  refine jr_iload rfl rfl ?_
  refine jr_icmp_gt rfl (fun c48 => ?_) (fun c48 => ?_)
  · have hl2 : lg < l := jn_lt (show nI lg < nI l from c48) (by omega) (by omega)
    refine k best _ (jl_bm_iff hB (fun x => ⟨Or.inl, ?_⟩))
    rintro (z | ⟨z1, z2, z3⟩)
    · exact z
    · omega
  · have hl1 : l ≤ lg := jn_nlt (show ¬ nI lg < nI l from c48) (by omega) (by omega)
    refine jr_aload rfl rfl ?_
    refine jr_getR rfl rfl rfl rfl (Or.inl rfl) ?_
    refine jr_iload rfl rfl ?_
    refine jr_ic rfl ?_
    refine jr_iadd rfl ?_
    refine jr_aald (so := 7) (len := 6) rfl rfl rfl rfl rfl (jn_add rfl (show _ = nI 1 from rfl)) (by omega) (Or.inl rfl) ?_
    refine jr_iload rfl rfl ?_
    refine jr_iload rfl rfl ?_
    refine jr_iadd rfl ?_
    refine jr_iald (len := 156) rfl rfl (jn_add rfl rfl) (by omega) ?_
    rw [show jh_I (jL h S) 58 (i + 1) (s + l) = nI (F (s + l)) from hF _ (by omega)]
    refine jr_if_le rfl (fun c59 => ?_) (fun c59 => ?_)
    · refine jr_iinc8 rfl rfl ?_
      refine jr_goto rfl ?_
      rw [jn_S]
      refine lp_kl (l + 1) best R hi hs hlg (by omega) hF hFb hB (fun b' x8 hb' => k b' x8 (jl_bm_iff hb' (fun x => ?_)))
      have hz : ¬ 0 < F (s + l) := fun z => nI_nle z (hFb _ (by omega)) c59
      constructor
      · rintro (z | ⟨z1, z2, z3⟩)
        · exact Or.inl z
        · exact Or.inr ⟨by omega, z2, z3⟩
      · rintro (z | ⟨z1, z2, z3⟩)
        · exact Or.inl z
        · by_cases e : x = l
          · rw [e] at z3; exact absurd z3 hz
          · exact Or.inr ⟨by omega, z2, z3⟩
    · refine jr_iload rfl rfl ?_
      refine jr_ic rfl ?_
      refine jr_icmp_eq rfl (fun c62 => ?_) (fun c62 => ?_)
      · refine jr_iload rfl rfl ?_
        refine jr_ist4 rfl rfl ?_
        refine jr_iinc8 rfl rfl ?_
        refine jr_goto rfl ?_
        rw [jn_S]
        have hF0 : 0 < F (s + l) := by
          rcases Nat.eq_zero_or_pos (F (s + l)) with z | z
          · exact absurd (show nI (F (s + l)) ≤ 0 by rw [z]; decide) c59
          · exact z
        refine lp_kl (l + 1) (nI l) (fun x => R x ∨ x = l) hi hs hlg (by omega) hF hFb (jl_bm_new (by omega) hB (Or.inl c62)) (fun b' x8 hb' => k b' x8 (jl_bm_iff hb' (fun x => ?_)))
        constructor
        · rintro ((z | z) | ⟨z1, z2, z3⟩)
          · exact Or.inl z
          · exact Or.inr ⟨by omega, by omega, by rw [z]; exact hF0⟩
          · exact Or.inr ⟨by omega, z2, z3⟩
        · rintro (z | ⟨z1, z2, z3⟩)
          · exact Or.inl (Or.inl z)
          · by_cases e : x = l
            · exact Or.inl (Or.inr e)
            · exact Or.inr ⟨by omega, z2, z3⟩
      · refine jr_iload rfl rfl ?_
        refine jr_if_eq rfl (fun c64 => ?_) (fun c64 => ?_)
        · refine jr_iload rfl rfl ?_
          refine jr_iload rfl rfl ?_
          refine jr_icmp_ge rfl (fun c71 => ?_) (fun c71 => ?_)
          · refine jr_iinc8 rfl rfl ?_
            refine jr_goto rfl ?_
            rw [jn_S]
            have hF0 : 0 < F (s + l) := by
              rcases Nat.eq_zero_or_pos (F (s + l)) with z | z
              · exact absurd (show nI (F (s + l)) ≤ 0 by rw [z]; decide) c59
              · exact z
            refine lp_kl (l + 1) best (fun x => R x ∨ x = l) hi hs hlg (by omega) hF hFb (jl_bm_old (by omega) hB c62 (Or.inl ⟨c64, c71⟩)) (fun b' x8 hb' => k b' x8 (jl_bm_iff hb' (fun x => ?_)))
            constructor
            · rintro ((z | z) | ⟨z1, z2, z3⟩)
              · exact Or.inl z
              · exact Or.inr ⟨by omega, by omega, by rw [z]; exact hF0⟩
              · exact Or.inr ⟨by omega, z2, z3⟩
            · rintro (z | ⟨z1, z2, z3⟩)
              · exact Or.inl (Or.inl z)
              · by_cases e : x = l
                · exact Or.inl (Or.inr e)
                · exact Or.inr ⟨by omega, z2, z3⟩
          · refine jr_iload rfl rfl ?_
            refine jr_ist4 rfl rfl ?_
            refine jr_iinc8 rfl rfl ?_
            refine jr_goto rfl ?_
            rw [jn_S]
            have hF0 : 0 < F (s + l) := by
              rcases Nat.eq_zero_or_pos (F (s + l)) with z | z
              · exact absurd (show nI (F (s + l)) ≤ 0 by rw [z]; decide) c59
              · exact z
            refine lp_kl (l + 1) (nI l) (fun x => R x ∨ x = l) hi hs hlg (by omega) hF hFb (jl_bm_new (by omega) hB (Or.inr (Or.inl ⟨c64, Int32.not_le.mp c71⟩))) (fun b' x8 hb' => k b' x8 (jl_bm_iff hb' (fun x => ?_)))
            constructor
            · rintro ((z | z) | ⟨z1, z2, z3⟩)
              · exact Or.inl z
              · exact Or.inr ⟨by omega, by omega, by rw [z]; exact hF0⟩
              · exact Or.inr ⟨by omega, z2, z3⟩
            · rintro (z | ⟨z1, z2, z3⟩)
              · exact Or.inl (Or.inl z)
              · by_cases e : x = l
                · exact Or.inl (Or.inr e)
                · exact Or.inr ⟨by omega, z2, z3⟩
        · refine jr_iload rfl rfl ?_
          refine jr_iload rfl rfl ?_
          refine jr_icmp_le rfl (fun c67 => ?_) (fun c67 => ?_)
          · refine jr_iinc8 rfl rfl ?_
            refine jr_goto rfl ?_
            rw [jn_S]
            have hF0 : 0 < F (s + l) := by
              rcases Nat.eq_zero_or_pos (F (s + l)) with z | z
              · exact absurd (show nI (F (s + l)) ≤ 0 by rw [z]; decide) c59
              · exact z
            refine lp_kl (l + 1) best (fun x => R x ∨ x = l) hi hs hlg (by omega) hF hFb (jl_bm_old (by omega) hB c62 (Or.inr ⟨c64, c67⟩)) (fun b' x8 hb' => k b' x8 (jl_bm_iff hb' (fun x => ?_)))
            constructor
            · rintro ((z | z) | ⟨z1, z2, z3⟩)
              · exact Or.inl z
              · exact Or.inr ⟨by omega, by omega, by rw [z]; exact hF0⟩
              · exact Or.inr ⟨by omega, z2, z3⟩
            · rintro (z | ⟨z1, z2, z3⟩)
              · exact Or.inl (Or.inl z)
              · by_cases e : x = l
                · exact Or.inl (Or.inr e)
                · exact Or.inr ⟨by omega, z2, z3⟩
          · refine jr_goto rfl ?_
            refine jr_iload rfl rfl ?_
            refine jr_ist4 rfl rfl ?_
            refine jr_iinc8 rfl rfl ?_
            refine jr_goto rfl ?_
            rw [jn_S]
            have hF0 : 0 < F (s + l) := by
              rcases Nat.eq_zero_or_pos (F (s + l)) with z | z
              · exact absurd (show nI (F (s + l)) ≤ 0 by rw [z]; decide) c59
              · exact z
            refine lp_kl (l + 1) (nI l) (fun x => R x ∨ x = l) hi hs hlg (by omega) hF hFb (jl_bm_new (by omega) hB (Or.inr (Or.inr ⟨c64, Int32.not_le.mp c67⟩))) (fun b' x8 hb' => k b' x8 (jl_bm_iff hb' (fun x => ?_)))
            constructor
            · rintro ((z | z) | ⟨z1, z2, z3⟩)
              · exact Or.inl z
              · exact Or.inr ⟨by omega, by omega, by rw [z]; exact hF0⟩
              · exact Or.inr ⟨by omega, z2, z3⟩
            · rintro (z | ⟨z1, z2, z3⟩)
              · exact Or.inl (Or.inl z)
              · by_cases e : x = l
                · exact Or.inl (Or.inr e)
                · exact Or.inr ⟨by omega, z2, z3⟩
termination_by lg + 1 - l
decreasing_by all_goals omega

set_option maxHeartbeats 800000 in
set_option maxRecDepth 100000 in
theorem lp_ko {d n0 : Nat} {Q : Option jx_V → jx_H → Prop} {h hm : jx_H} {r b m i lst : Nat} {mst : Int32} {N : Nat → Int32} {S : Nat → Nat → Nat → Int32} (s : Nat) (best : Int32) (x7 x8 : Option jx_V) (hw : jz_W hm b) (hR : jy_R h r hm b) (h0 : 0 < jz_nm hm b) (hN : ∀ e, e ≤ 400 → S 56 0 e = N e) (hi : i < m) (hm5 : m ≤ 5) (hs : s ≤ i * 31 + 1) (hI : jl_is (S 60 i) (jl_rch (jl_f hm b) (jl_A hm b N) i)) (hF : ∀ x, x ≤ (i + 1) * 31 → S 58 (i + 1) x = nI (jl_T hm b N lst (m - (i + 1)) (i + 1) x)) (hFb : ∀ x, x ≤ (i + 1) * 31 → jl_T hm b N lst (m - (i + 1)) (i + 1) x < 2 ^ 31) (hB : jl_bm mst best (fun x => ∃ s', s' < s ∧ jl_rch (jl_f hm b) (jl_A hm b N) i s' ∧ jl_f hm b i ≤ x ∧ x ≤ jl_A hm b N i s' ∧ 0 < jl_T hm b N lst (m - (i + 1)) (i + 1) (s' + x))) (k : ∀ b', jl_bm mst b' (fun x => ∃ s, jl_rch (jl_f hm b) (jl_A hm b N) i s ∧ jl_f hm b i ≤ x ∧ x ≤ jl_A hm b N i s ∧ 0 < jl_T hm b N lst (m - (i + 1)) (i + 1) (s + x)) → Q (some (jv_i b')) (jL h S))  : jx_W (jm_Led_knownLength, d + 3, 0, 0, false, 0, n0) Q 0 0 20 [some (jv_r 4 0), some (jv_r 7 r), some (jv_i (nI i)), some (jv_i mst), some (jv_i best), some (jv_i (nI (i % jz_nm hm b))), some (jv_i (nI s)), x7, x8] [] (jL h S) := by
  have hft := jl_ft hw h0 i
  obtain ⟨ft1, ft2, ft3, ft4, ft5⟩ := hft
  have hnm6 := hw.2.2.1.1.2
  have hi5 : i < 5 := by omega
  refine jr_iload rfl rfl ?_
  refine jr_iload rfl rfl ?_
  refine jr_ic rfl ?_
  refine jr_imul rfl ?_
  rw [show nI i * 31 = nI (i * 31) from jn_mul rfl (jn_c 31)]
  refine jr_icmp_gt rfl (fun c24 => ?_) (fun c24 => ?_)
  · refine jr_iload rfl rfl ?_
    refine jr_iret rfl rfl (Nat.zero_le _) (Nat.zero_le _) ?_
    have hs2 : i * 31 < s := jn_lt (show nI (i * 31) < nI s from c24) (by omega) (by omega)
    refine k best (jl_bm_iff hB (fun x => ?_))
    constructor
    · rintro ⟨s', z1, z2⟩; exact ⟨s', z2⟩
    · rintro ⟨s', z2, z3⟩
      have := jl_rch_b (N := N) (fun i => (jl_ft hw h0 i).2.2.2.1) i s' z2
      exact ⟨s', by omega, z2, z3⟩
  · have hs1 : s ≤ i * 31 := jn_nlt (show ¬ nI (i * 31) < nI s from c24) (by omega) (by omega)
    refine jr_aload rfl rfl ?_
    refine jr_getR rfl rfl rfl rfl (Or.inl rfl) ?_
    refine jr_iload rfl rfl ?_
    refine jr_aald (so := 7) (len := 6) rfl rfl rfl rfl rfl rfl (by omega) (Or.inl rfl) ?_
    refine jr_iload rfl rfl ?_
    refine jr_iald (len := 156) rfl rfl rfl (by omega) ?_
    refine jr_if_ne rfl (fun c31 => ?_) (fun c31 => ?_)
    · refine jr_aload rfl rfl ?_
      refine jr_iload rfl rfl ?_
      refine jr_iload rfl rfl ?_
      refine jr_aload rfl rfl ?_
      refine jr_iload rfl rfl ?_
      refine jr_cv1 (mc' := 0) (ms' := 0) rfl jm_Rep_mostOf_n jm_Rep_mostOf_f rfl rfl rfl rfl rfl rfl rfl (Nat.zero_le _) (Nat.zero_le _) ?_
      refine ev_Rep_mostOf (hm := hm) (b := b) (m := i % jz_nm hm b) hR hw.2.2.1.1 ft5 ?_
      rw [ft2]
      refine jr_cv3 (mc' := 0) (ms' := 0) rfl jm_Led_longestAgreeing_n jm_Led_longestAgreeing_f rfl rfl rfl rfl rfl rfl rfl (Nat.zero_le _) (Nat.zero_le _) ?_
      refine ev_LA (N := N) hN (by omega) (by omega) ?_
      rw [show jl_la (jl_gg N (i % jz_nm hm b) s) (jl_t hm b i) 1 = jl_A hm b N i s from rfl]
      refine jr_ist7 rfl rfl ?_
      refine jr_aload rfl rfl ?_
      refine jr_iload rfl rfl ?_
      refine jr_cv1 (mc' := 0) (ms' := 0) rfl jm_Rep_leastOf_n jm_Rep_leastOf_f rfl rfl rfl rfl rfl rfl rfl (Nat.zero_le _) (Nat.zero_le _) ?_
      refine ev_Rep_leastOf (hm := hm) (b := b) (m := i % jz_nm hm b) hR hw.2.2.1.1 ft5 ?_
      rw [ft1]
      refine jr_ist8 rfl rfl ?_
      refine lp_kl (F := fun x => jl_T hm b N lst (m - (i + 1)) (i + 1) x) (jl_f hm b i) best _ (by omega) hs1 (by have := @jl_A_le hm b N i s; omega) (by omega) hF hFb hB (fun b1 x8 hb1 => ?_)
      refine jr_iinc6 rfl rfl ?_
      refine jr_goto rfl ?_
      rw [jn_S]
      refine lp_ko (s + 1) b1 _ _ hw hR h0 hN hi hm5 (by omega) hI hF hFb (jl_bm_iff hb1 (fun x => ?_)) k
      have hnr : jl_rch (jl_f hm b) (jl_A hm b N) i s := by
        rcases hI s (by omega) with ⟨-, z2⟩ | ⟨z1, -⟩
        · exact z2
        · exact absurd z1 c31
      constructor
      · rintro (⟨s', z1, z2, z3⟩ | ⟨z1, z2, z3⟩)
        · exact ⟨s', by omega, z2, z3⟩
        · exact ⟨s, by omega, hnr, z1, z2, z3⟩
      · rintro ⟨s', z1, z2, z3, z4, z5⟩
        by_cases e : s' = s
        · rw [e] at z4 z5; exact Or.inr ⟨z3, z4, z5⟩
        · exact Or.inl ⟨s', by omega, z2, z3, z4, z5⟩
    · refine jr_ic rfl ?_
      refine jr_goto rfl ?_
      refine jr_ist7 rfl rfl ?_
      refine jr_aload rfl rfl ?_
      refine jr_iload rfl rfl ?_
      refine jr_cv1 (mc' := 0) (ms' := 0) rfl jm_Rep_leastOf_n jm_Rep_leastOf_f rfl rfl rfl rfl rfl rfl rfl (Nat.zero_le _) (Nat.zero_le _) ?_
      refine ev_Rep_leastOf (hm := hm) (b := b) (m := i % jz_nm hm b) hR hw.2.2.1.1 ft5 ?_
      rw [ft1]
      refine jr_ist8 rfl rfl ?_
      refine jr_iload rfl rfl ?_
      refine jr_iload rfl rfl ?_
      refine jr_icmp_gt rfl (fun _ => ?_) (fun z => absurd (show (-1 : Int32) < nI (jl_f hm b i) from by rw [Int32.lt_iff_toInt_lt, nI_toInt (by omega)]; exact Int.lt_of_lt_of_le (by decide) (Int.natCast_nonneg _)) z)
      refine jr_iinc6 rfl rfl ?_
      refine jr_goto rfl ?_
      rw [jn_S]
      refine lp_ko (s + 1) best _ _ hw hR h0 hN hi hm5 (by omega) hI hF hFb (jl_bm_iff hB (fun x => ?_)) k
      have hnr : ¬ jl_rch (jl_f hm b) (jl_A hm b N) i s := by
        rcases hI s (by omega) with ⟨z1, -⟩ | ⟨-, z2⟩
        · exact absurd (z1.symm.trans c31) (by decide)
        · exact z2
      constructor
      · rintro ⟨s', z1, z2, z3⟩; exact ⟨s', by omega, z2, z3⟩
      · rintro ⟨s', z1, z2, z3⟩
        by_cases e : s' = s
        · rw [e] at z2; exact absurd z2 hnr
        · exact ⟨s', by omega, z2, z3⟩
termination_by i * 31 + 1 - s
decreasing_by all_goals omega

set_option maxHeartbeats 800000 in
set_option maxRecDepth 100000 in
theorem ev_known {d : Nat} {h : jx_H} {Q : Option jx_V → jx_H → Prop} {hm : jx_H} {r b m i lst : Nat} {mst : Int32} {N : Nat → Int32} {S : Nat → Nat → Nat → Int32} (hw : jz_W hm b) (hR : jy_R h r hm b) (h0 : 0 < jz_nm hm b) (hN : ∀ e, e ≤ 400 → S 56 0 e = N e) (h7 : S 4 0 7 = nI m) (hi : i < m) (hm5 : m ≤ 5) (hF : ∀ x, x ≤ (i + 1) * 31 → S 58 (i + 1) x = nI (jl_T hm b N lst (m - (i + 1)) (i + 1) x)) (hFb : ∀ x, x ≤ (i + 1) * 31 → jl_T hm b N lst (m - (i + 1)) (i + 1) x < 2 ^ 31) (k : ∀ S' : Nat → Nat → Nat → Int32, (∀ x y, x ≠ 60 → S' x y = S x y) → ∀ b', jl_bm mst b' (fun x => ∃ s, jl_rch (jl_f hm b) (jl_A hm b N) i s ∧ jl_f hm b i ≤ x ∧ x ≤ jl_A hm b N i s ∧ 0 < jl_T hm b N lst (m - (i + 1)) (i + 1) (s + x)) → Q (some (jv_i b')) (jL h S'))  : jx_Ev jm_Led_knownLength (d + 4) 0 0 false 0 [jv_r 4 0, jv_r 7 r, jv_i (nI i), jv_i mst] (jL h S) Q := by
  show jx_W (jm_Led_knownLength, d + 4, 0, 0, false, 0, _) Q 0 0 0 [some (jv_r 4 0), some (jv_r 7 r), some (jv_i (nI i)), some (jv_i mst), none, none, none, none, none] [] _
  refine jr_iload rfl rfl ?_
  refine jr_if_lt rfl (fun z => absurd z (nI_pos (by omega))) (fun _ => ?_)
  refine jr_iload rfl rfl ?_
  refine jr_aload rfl rfl ?_
  refine jr_getI rfl rfl ?_
  rw [show jh_I (jL h S) 4 0 7 = nI m from h7]
  refine jr_icmp_lt rfl (fun _ => ?_) (fun z => absurd (nI_lt hi (by omega)) z)
  refine jr_aload rfl rfl ?_
  refine jr_aload rfl rfl ?_
  refine jr_iload rfl rfl ?_
  refine jr_cv2 (mc' := 0) (ms' := 0) rfl jm_Led_markReached_n jm_Led_markReached_f rfl rfl rfl rfl rfl rfl rfl (Nat.zero_le _) (Nat.zero_le _) ?_
  refine ev_markReached (N := N) hw hR h0 hN (by omega) (fun S1 f1 g1 => ?_)
  refine jr_ic rfl ?_
  refine jr_ist4 rfl rfl ?_
  refine jr_aload rfl rfl ?_
  refine jr_iload rfl rfl ?_
  refine jr_cs2 (mc' := 0) (ms' := 0) rfl jm_Led_monthAt_n jm_Led_monthAt_f rfl rfl rfl rfl rfl (Nat.zero_le _) (Nat.zero_le _) ?_
  refine ev_monthAt (hm := hm) (b := b) (i := i) hw hR h0 (by omega) ?_
  refine jr_ist5 rfl rfl ?_
  refine jr_ic rfl ?_
  refine jr_ist6 rfl rfl ?_
  refine lp_ko (N := N) (lst := lst) (m := m) 0 (-1) _ _ hw hR h0 (fun e he => (congrFun (f1 56 0 (by omega)) e).trans (hN e he)) hi hm5 (by omega) (g1 i (Nat.le_refl _)) (fun x hx => (congrFun (f1 58 (i + 1) (by omega)) x).trans (hF x hx)) hFb (Or.inl ⟨rfl, ?_⟩) (fun b' hb' => k S1 f1 b' hb')
  rintro l ⟨s', z1, -⟩
  omega

theorem jl_w_b {hm : jx_H} {b : Nat} (hw : jz_W hm b) (h0 : 0 < jz_nm hm b) (i : Nat) : 1 ≤ jl_w hm b i ∧ jl_w hm b i ≤ 32 := by
  have := jl_ft hw h0 i
  unfold jl_w
  omega
theorem jl_P_b {hm : jx_H} {b : Nat} (hw : jz_W hm b) (h0 : 0 < jz_nm hm b) : ∀ i, jl_P (jl_w hm b) i ≤ 32 ^ i ∧ 1 ≤ jl_P (jl_w hm b) i
  | 0 => ⟨Nat.le_refl _, Nat.le_refl _⟩
  | i + 1 => by
    have ih := jl_P_b hw h0 i
    have hi := jl_w_b hw h0 i
    rw [jl_P, Nat.pow_succ]
    exact ⟨Nat.mul_le_mul ih.1 hi.2, Nat.mul_le_mul ih.2 hi.1⟩
theorem jl_P_mono {hm : jx_H} {b : Nat} (hw : jz_W hm b) (h0 : 0 < jz_nm hm b) (i : Nat) : jl_P (jl_w hm b) i ≤ jl_P (jl_w hm b) (i + 1) := by
  have hi := jl_w_b hw h0 i
  rw [jl_P]
  exact Nat.le_mul_of_pos_right _ hi.1
theorem jl_P_mono2 {hm : jx_H} {b : Nat} (hw : jz_W hm b) (h0 : 0 < jz_nm hm b) (i : Nat) : ∀ n, jl_P (jl_w hm b) i ≤ jl_P (jl_w hm b) (i + n)
  | 0 => Nat.le_refl _
  | n + 1 => Nat.le_trans (jl_P_mono2 hw h0 i n) (jl_P_mono hw h0 (i + n))
theorem jl_P5 {hm : jx_H} {b i : Nat} (hw : jz_W hm b) (h0 : 0 < jz_nm hm b) (hi : i ≤ 5) : jl_P (jl_w hm b) i ≤ 33554432 :=
  Nat.le_trans (jl_P_b hw h0 i).1 (Nat.le_trans (Nat.pow_le_pow_right (by decide) hi) (by decide))
set_option maxHeartbeats 800000 in
set_option maxRecDepth 100000 in
theorem lp_rows {d n0 : Nat} {Q : Option jx_V → jx_H → Prop} {h hm : jx_H} {r b m n : Nat} {kk : Int32} {q st : Nat → Nat} {cn : Nat → Bool} {S : Nat → Nat → Nat → Int32} (i : Nat) (x6 : Option jx_V) (hw : jz_W hm b) (hR : jy_R h r hm b) (h0 : 0 < jz_nm hm b) (hm1 : 1 ≤ m) (hm5 : m ≤ 5) (hn : n ≤ 30) (hL : ∀ j, j < n → jh_I h 52 0 j = nI (q j) ∧ q j ≤ 400 ∧ jh_I h 53 0 j = nI (st j) ∧ (cn j = true ↔ jh_I h 54 0 j ≤ kk ∧ (jh_I h 55 0 j = -1 ∨ kk < jh_I h 55 0 j))) (h4 : S 4 0 4 = nI n) (h7 : S 4 0 7 = nI m) (hi : i ≤ m) (k1 : 50000 < jl_P (jl_w hm b) m → ∀ S' : Nat → Nat → Nat → Int32, (∀ f, f ≠ 6 → f ≠ 7 → S' 4 0 f = S 4 0 f) → Q (some (jv_i (-2))) (jL h S')) (k2 : ¬ 50000 < jl_P (jl_w hm b) m → ∀ S' : Nat → Nat → Nat → Int32, (∀ f, f ≠ 6 → f ≠ 7 → S' 4 0 f = S 4 0 f) → S' 4 0 7 = nI m → (∀ e, e ≤ 400 → S' 56 0 e = jl_nd q st cn n e) → (∀ j, j ≤ m → ∀ x, x ≤ j * 31 → S' 58 j x = nI (jl_T hm b (jl_nd q st cn n) (jl_lst q cn n) (m - j) j x)) → Q (some (jv_i (nI (jl_T hm b (jl_nd q st cn n) (jl_lst q cn n) m 0 0)))) (jL h S'))  : jx_W (jm_Led_rows, d + 4, 0, 0, false, 0, n0) Q 0 0 11 [some (jv_r 4 0), some (jv_r 7 r), some (jv_i (nI m)), some (jv_i kk), some (jv_i (nI (jl_P (jl_w hm b) i))), some (jv_i (nI i)), x6] [] (jL h S) := by
  have hft := jl_ft hw h0 i
  obtain ⟨ft1, ft2, ft3, ft4, ft5⟩ := hft
  have hnm6 := hw.2.2.1.1.2
  refine jr_iload rfl rfl ?_
  refine jr_aload rfl rfl ?_
  refine jr_getI rfl rfl ?_
  rw [show jh_I (jL h S) 4 0 7 = nI m from h7]
  refine jr_icmp_ge rfl (fun c14 => ?_) (fun c14 => ?_)
  · have hi2 : i = m := by have := jn_le (show nI m ≤ nI i from c14) (by omega) (by omega); omega
    subst hi2
    refine jr_iload rfl rfl ?_
    refine jr_ic rfl ?_
    refine jr_icmp_le rfl (fun c35 => ?_) (fun c35 => ?_)
    · refine jr_aload rfl rfl ?_
      refine jr_iload rfl rfl ?_
      refine jr_cv1 (mc' := 0) (ms' := 0) rfl jm_Led_gather_n jm_Led_gather_f rfl rfl rfl rfl rfl rfl rfl (Nat.zero_le _) (Nat.zero_le _) ?_
      refine ev_gather hn hL h4 (fun S1 f1 g1 g2 g3 => ?_)
      refine jr_aload rfl rfl ?_
      refine jr_aload rfl rfl ?_
      refine jr_cv1 (mc' := 0) (ms' := 0) rfl jm_Led_countBehind_n jm_Led_countBehind_f rfl rfl rfl rfl rfl rfl rfl (Nat.zero_le _) (Nat.zero_le _) ?_
      refine ev_countBehind (N := jl_nd q st cn n) (lst := jl_lst q cn n) (m := i) hw hR h0 g1 ((g3 7 (by decide)).trans h7) hm5 hm1 g2 (fun S2 f2 k3 => ?_)
      refine jr_aload rfl rfl ?_
      refine jr_getR rfl rfl rfl rfl (Or.inl rfl) ?_
      refine jr_ic rfl ?_
      refine jr_aald (so := 7) (len := 6) rfl rfl rfl rfl rfl (show _ = nI 0 from rfl) (by decide) (Or.inl rfl) ?_
      refine jr_ic rfl ?_
      refine jr_iald (len := 156) rfl rfl (show _ = nI 0 from rfl) (by decide) ?_
      rw [show jh_I (jL h S2) 58 0 0 = nI (jl_T hm b (jl_nd q st cn n) (jl_lst q cn n) i 0 0) from k3 0 (Nat.zero_le _) 0 (Nat.zero_le _)]
      refine jr_iret rfl rfl (Nat.zero_le _) (Nat.zero_le _) ?_
      exact k2 (fun z => nI_ge z (by have := jl_P5 hw h0 hm5; omega) c35) S2 (fun f z1 z2 => (congrFun (f2 4 0 (by decide)) f).trans (g3 f z1)) ((congrFun (f2 4 0 (by decide)) 7).trans ((g3 7 (by decide)).trans h7)) (fun e he => (congrFun (f2 56 0 (by decide)) e).trans (g1 e he)) k3
    · refine jr_ic rfl ?_
      refine jr_iret rfl rfl (Nat.zero_le _) (Nat.zero_le _) ?_
      exact k1 (Decidable.byContradiction fun z => c35 (nI_le (b := 50000) (by omega) (by decide))) S (fun _ _ _ => rfl)
  · have hi1 : i < m := jn_nle (show ¬ nI m ≤ nI i from c14) (by omega) (by omega)
    refine jr_aload rfl rfl ?_
    refine jr_iload rfl rfl ?_
    refine jr_cs2 (mc' := 0) (ms' := 0) rfl jm_Led_monthAt_n jm_Led_monthAt_f rfl rfl rfl rfl rfl (Nat.zero_le _) (Nat.zero_le _) ?_
    refine ev_monthAt (hm := hm) (b := b) (i := i) hw hR h0 (by omega) ?_
    refine jr_ist6 rfl rfl ?_
    refine jr_iload rfl rfl ?_
    refine jr_aload rfl rfl ?_
    refine jr_iload rfl rfl ?_
    refine jr_cv1 (mc' := 0) (ms' := 0) rfl jm_Rep_mostOf_n jm_Rep_mostOf_f rfl rfl rfl rfl rfl rfl rfl (Nat.zero_le _) (Nat.zero_le _) ?_
    refine ev_Rep_mostOf (hm := hm) (b := b) (m := i % jz_nm hm b) hR hw.2.2.1.1 ft5 ?_
    rw [ft2]
    refine jr_aload rfl rfl ?_
    refine jr_iload rfl rfl ?_
    refine jr_cv1 (mc' := 0) (ms' := 0) rfl jm_Rep_leastOf_n jm_Rep_leastOf_f rfl rfl rfl rfl rfl rfl rfl (Nat.zero_le _) (Nat.zero_le _) ?_
    refine ev_Rep_leastOf (hm := hm) (b := b) (m := i % jz_nm hm b) hR hw.2.2.1.1 ft5 ?_
    rw [ft1]
    refine jr_isub rfl ?_
    refine jr_ic rfl ?_
    refine jr_iadd rfl ?_
    refine jr_imul rfl ?_
    rw [show nI (jl_P (jl_w hm b) i) * (nI (jl_t hm b i) - nI (jl_f hm b i) + 1) = nI (jl_P (jl_w hm b) (i + 1)) from jn_mul rfl (jn_add (jn_sub rfl rfl ft3) (jn_c 1))]
    refine jr_ist4 rfl rfl ?_
    refine jr_iinc5 rfl rfl ?_
    refine jr_goto rfl ?_
    rw [jn_S]
    exact lp_rows (i + 1) _ hw hR h0 hm1 hm5 hn hL h4 h7 (by omega) k1 k2
termination_by m - i
decreasing_by all_goals omega

set_option maxHeartbeats 800000 in
set_option maxRecDepth 100000 in
theorem ev_rows {d : Nat} {h : jx_H} {Q : Option jx_V → jx_H → Prop} {hm : jx_H} {r b m n : Nat} {kk : Int32} {q st : Nat → Nat} {cn : Nat → Bool} {S : Nat → Nat → Nat → Int32} (hw : jz_W hm b) (hR : jy_R h r hm b) (h0 : 0 < jz_nm hm b) (hm1 : 1 ≤ m) (hm5 : m ≤ 5) (hn : n ≤ 30) (hL : ∀ j, j < n → jh_I h 52 0 j = nI (q j) ∧ q j ≤ 400 ∧ jh_I h 53 0 j = nI (st j) ∧ (cn j = true ↔ jh_I h 54 0 j ≤ kk ∧ (jh_I h 55 0 j = -1 ∨ kk < jh_I h 55 0 j))) (h4 : S 4 0 4 = nI n) (k1 : 50000 < jl_P (jl_w hm b) m → ∀ S' : Nat → Nat → Nat → Int32, (∀ f, f ≠ 6 → f ≠ 7 → S' 4 0 f = S 4 0 f) → Q (some (jv_i (-2))) (jL h S')) (k2 : ¬ 50000 < jl_P (jl_w hm b) m → ∀ S' : Nat → Nat → Nat → Int32, (∀ f, f ≠ 6 → f ≠ 7 → S' 4 0 f = S 4 0 f) → S' 4 0 7 = nI m → (∀ e, e ≤ 400 → S' 56 0 e = jl_nd q st cn n e) → (∀ j, j ≤ m → ∀ x, x ≤ j * 31 → S' 58 j x = nI (jl_T hm b (jl_nd q st cn n) (jl_lst q cn n) (m - j) j x)) → Q (some (jv_i (nI (jl_T hm b (jl_nd q st cn n) (jl_lst q cn n) m 0 0)))) (jL h S'))  : jx_Ev jm_Led_rows (d + 4) 0 0 false 0 [jv_r 4 0, jv_r 7 r, jv_i (nI m), jv_i kk] (jL h S) Q := by
  show jx_W (jm_Led_rows, d + 4, 0, 0, false, 0, _) Q 0 0 0 [some (jv_r 4 0), some (jv_r 7 r), some (jv_i (nI m)), some (jv_i kk), none, none, none] [] _
  refine jr_aload rfl rfl ?_
  refine jr_ic rfl ?_
  refine jr_iload rfl rfl ?_
  refine jr_ic rfl ?_
  refine jr_cs2 (mc' := 0) (ms' := 0) rfl jm_Math_min_n jm_Math_min_f rfl rfl rfl rfl rfl (Nat.zero_le _) (Nat.zero_le _) ?_
  refine ev_minN (w := m) (n := 5) rfl rfl hm5 (by decide) ?_
  refine jr_cs2 (mc' := 0) (ms' := 0) rfl jm_Math_max_n jm_Math_max_f rfl rfl rfl rfl rfl (Nat.zero_le _) (Nat.zero_le _) ?_
  refine ev_maxN (w := 0) (n := m) rfl rfl ⟨by omega, by decide⟩ ?_
  rw [Nat.zero_max]
  refine jr_putI rfl rfl ?_
  simp only [jL_4, jL_r4]
  refine jr_ic rfl ?_
  refine jr_ist4 rfl rfl ?_
  refine jr_ic rfl ?_
  refine jr_ist5 rfl rfl ?_
  have e4 : ∀ f, f ≠ 7 → jL_up S 4 0 (upd (S 4 0) 7 (nI m)) 4 0 f = S 4 0 f := fun f hf => by rw [jL_us, jg_un hf]
  exact lp_rows (S := jL_up S 4 0 (upd (S 4 0) 7 (nI m))) 0 _ hw hR h0 hm1 hm5 hn hL ((e4 4 (by decide)).trans h4) (by rw [jL_us, jg_us]) (Nat.zero_le _) (fun z S' f' => k1 z S' (fun f z1 z2 => (f' f z1 z2).trans (e4 f z2))) (fun z S' f' => k2 z S' (fun f z1 z2 => (f' f z1 z2).trans (e4 f z2)))

