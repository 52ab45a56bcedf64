def jk_L (a b : Nat) : Bool := a == 58 || a == 60 || (a == 56 && b == 0) || (a == 4 && b == 0)
def jL (h : jx_H) (S : Nat → Nat → Nat → Int32) : jx_H := (fun a b => if jk_L a b = true then S a b else h.1 a b, h.2)
def jL_up (S : Nat → Nat → Nat → Int32) (a b : Nat) (f : Nat → Int32) : Nat → Nat → Nat → Int32 := fun x y => if x = a ∧ y = b then f else S x y
theorem jL_us (S : Nat → Nat → Nat → Int32) (a b : Nat) (f : Nat → Int32) : jL_up S a b f a b = f := if_pos ⟨rfl, rfl⟩
theorem jL_un {S : Nat → Nat → Nat → Int32} {a b x y : Nat} {f : Nat → Int32} (h : ¬ (x = a ∧ y = b)) : jL_up S a b f x y = S x y := if_neg h
theorem jL_u {h : jx_H} {S : Nat → Nat → Nat → Int32} {a b : Nat} {f : Nat → Int32} (ha : jk_L a b = true) : ju_I (jL h S) a b f = jL h (jL_up S a b f) := by
  unfold ju_I jL jL_up
  refine congrArg (·, h.2) ?_
  funext x y
  dsimp only
  by_cases e : x = a ∧ y = b
  · rw [if_pos e, e.1, e.2, if_pos ha, if_pos ⟨rfl, rfl⟩]
  · rw [if_neg e, if_neg e]
theorem jL_56 (h : jx_H) (S : Nat → Nat → Nat → Int32) (f : Nat → Int32) : ju_I (jL h S) 56 0 f = jL h (jL_up S 56 0 f) := jL_u rfl
theorem jL_r56 (h : jx_H) (S : Nat → Nat → Nat → Int32) : jh_I (jL h S) 56 0 = S 56 0 := rfl
theorem jL_4 (h : jx_H) (S : Nat → Nat → Nat → Int32) (f : Nat → Int32) : ju_I (jL h S) 4 0 f = jL h (jL_up S 4 0 f) := jL_u rfl
theorem jL_r4 (h : jx_H) (S : Nat → Nat → Nat → Int32) : jh_I (jL h S) 4 0 = S 4 0 := rfl
theorem jL_58 (h : jx_H) (S : Nat → Nat → Nat → Int32) (i : Nat) (f : Nat → Int32) : ju_I (jL h S) 58 i f = jL h (jL_up S 58 i f) := jL_u rfl
theorem jL_r58 (h : jx_H) (S : Nat → Nat → Nat → Int32) (i : Nat) : jh_I (jL h S) 58 i = S 58 i := rfl
theorem jL_60 (h : jx_H) (S : Nat → Nat → Nat → Int32) (i : Nat) (f : Nat → Int32) : ju_I (jL h S) 60 i f = jL h (jL_up S 60 i f) := jL_u rfl
theorem jL_r60 (h : jx_H) (S : Nat → Nat → Nat → Int32) (i : Nat) : jh_I (jL h S) 60 i = S 60 i := rfl
theorem jL_self (h : jx_H) : jL h h.1 = h := by
  unfold jL
  refine Prod.ext ?_ rfl
  funext x y
  dsimp only
  split <;> rfl
theorem jz_Rel_L {hc hm : jx_H} {S : Nat → Nat → Nat → Int32} (h : jz_Rel hc hm) (hS : ∀ f, f ≠ 6 → f ≠ 7 → S 4 0 f = jh_I hc 4 0 f) : jz_Rel (jL hc S) hm := by
  obtain ⟨b, r, ⟨c1, c2, c3, c4, c5, c6, c7, c8⟩, ⟨s, t1, t2, t3⟩, ⟨f1, f2⟩, ⟨s2, l1, l2, l3, l4⟩, ⟨t', i1, i2, i3⟩, ⟨m, e1, e2, e3, e4⟩, hb, ⟨n2, u, a1, a2, a3, a4, a5, σ, g1, g2, g3, g4, g5, g6⟩, hwo⟩ := h
  exact ⟨b, r, ⟨⟨c1.1, c1.2.1, c1.2.2.1, c1.2.2.2⟩, c2, c3, c4, c5, c6, c7, c8⟩, ⟨s, t1, t2, t3⟩, ⟨f1, f2⟩, ⟨s2, l1, l2, l3, l4⟩, ⟨t', i1, i2, i3⟩, ⟨m, e1, (hS 4 (by decide) (by decide)).trans e2, e3, e4⟩, hb, ⟨n2, u, a1, a2, a3, a4, a5, σ, g1, g2, g3, g4, g5, g6⟩, hwo⟩
def jl_gg (N : Nat → Int32) (m s x : Nat) : Bool := decide (N (s + x - 1) = -1 ∨ N (s + x - 1) = nI (m * 32 + x))
def jl_f (hm : jx_H) (b i : Nat) : Nat := (jC hm b 3 (i % jz_nm hm b)).toNatClampNeg
def jl_t (hm : jx_H) (b i : Nat) : Nat := (jC hm b 4 (i % jz_nm hm b)).toNatClampNeg
def jl_w (hm : jx_H) (b i : Nat) : Nat := jl_t hm b i - jl_f hm b i + 1
theorem jl_ft {hm : jx_H} {b : Nat} (hw : jz_W hm b) (h0 : 0 < jz_nm hm b) (i : Nat) : jC hm b 3 (i % jz_nm hm b) = nI (jl_f hm b i) ∧ jC hm b 4 (i % jz_nm hm b) = nI (jl_t hm b i) ∧ jl_f hm b i ≤ jl_t hm b i ∧ jl_t hm b i ≤ 31 ∧ i % jz_nm hm b < jz_nm hm b := by
  have hm1 := Nat.mod_lt i h0
  obtain ⟨f, t, h1, h2, h3, h4⟩ := jz_ft hw hm1
  unfold jl_f jl_t
  rw [h1, h2, nI_clamp (by omega), nI_clamp (by omega)]
  exact ⟨rfl, rfl, h3, h4, hm1⟩
abbrev jl_A (hm : jx_H) (b : Nat) (N : Nat → Int32) : Nat → Nat → Nat := jl_LA N (jz_nm hm b) (jl_t hm b)
abbrev jl_T (hm : jx_H) (b : Nat) (N : Nat → Int32) (lst r i s : Nat) : Nat := jl_c (jl_f hm b) (jl_A hm b N) lst r i s
theorem jl_A_le {hm : jx_H} {b : Nat} {N : Nat → Int32} (i s : Nat) : jl_A hm b N i s ≤ jl_t hm b i := by
  have := jl_la_b (g := fun x => decide (N (s + x - 1) = -1 ∨ N (s + x - 1) = nI (i % jz_nm hm b * 32 + x))) (jl_t hm b i) 1 (Nat.le_refl _)
  unfold jl_A jl_LA
  omega
set_option maxHeartbeats 800000 in
set_option maxRecDepth 100000 in
theorem ev_need {d : Nat} {h : jx_H} {Q : Option jx_V → jx_H → Prop} {q w : Nat} {S : Nat → Nat → Nat → Int32} (hq : q ≤ 400) (k : ∀ S' : Nat → Nat → Nat → Int32, (∀ x y, ¬ (x = 56 ∧ y = 0) → ¬ (x = 4 ∧ y = 0) → S' x y = S x y) → S' 56 0 = upd (S 56 0) q (if S 56 0 q = -1 ∨ S 56 0 q = nI w then nI w else -2) → (∀ f, f ≠ 6 → S' 4 0 f = S 4 0 f) → S' 4 0 6 = (if nI q ≤ S 4 0 6 then S 4 0 6 else nI q) → Q none (jL h S'))  : jx_Ev jm_Led_need (d + 2) 0 0 false 0 [jv_r 4 0, jv_i (nI q), jv_i (nI w)] (jL h S) Q := by
  show jx_W (jm_Led_need, d + 2, 0, 0, false, 0, _) Q 0 0 0 [some (jv_r 4 0), some (jv_i (nI q)), some (jv_i (nI w))] [] _
  refine jr_iload rfl rfl ?_
  refine jr_if_lt rfl (fun z => absurd z (nI_pos (by omega))) (fun _ => ?_)
  refine jr_iload rfl rfl ?_
  refine jr_ic rfl ?_
  refine jr_icmp_gt rfl (fun z => absurd z (nI_nlt (a := 400) (b := q) (by omega) (by decide))) (fun _ => ?_)
  refine jr_aload rfl rfl ?_
  refine jr_getR rfl rfl rfl rfl (Or.inl rfl) ?_
  refine jr_iload rfl rfl ?_
  refine jr_aload rfl rfl ?_
  refine jr_getR rfl rfl rfl rfl (Or.inl rfl) ?_
  refine jr_iload rfl rfl ?_
  refine jr_iald (len := 401) rfl rfl rfl (by omega) ?_
  refine jr_ic rfl ?_
  refine jr_icmp_eq rfl (fun c13 => ?_) (fun c13 => ?_)
  · refine jr_iload rfl rfl ?_
    refine jr_goto rfl ?_
    refine jr_iast (len := 401) rfl rfl rfl (by omega) ?_
    simp only [jL_56, jL_r56]
    refine jr_aload rfl rfl ?_
    refine jr_aload rfl rfl ?_
    refine jr_getI rfl rfl ?_
    refine jr_iload rfl rfl ?_
    refine jr_cs2 (mc' := 0) (ms' := 0) rfl jm_Math_max_n jm_Math_max_f rfl rfl rfl rfl rfl (Nat.zero_le _) (Nat.zero_le _) ?_
    refine ev_Math_max ?_
    refine jr_putI rfl rfl ?_
    simp only [jL_4, jL_r4]
    refine jr_vret rfl rfl (Nat.zero_le _) (Nat.zero_le _) ?_
    refine k _ (fun x y h1 h2 => ?_) ?_ (fun f hf => ?_) ?_
    · exact (jL_un h2).trans (jL_un h1)
    · show upd (S 56 0) q _ = _
      rw [if_pos (show S 56 0 q = -1 ∨ S 56 0 q = nI w from Or.inl c13)]
    · show upd (S 4 0) 6 _ f = S 4 0 f
      exact jg_un hf
    · exact (congrFun (jL_us _ _ _ _) 6).trans (jg_us _ _ _)
  · refine jr_aload rfl rfl ?_
    refine jr_getR rfl rfl rfl rfl (Or.inl rfl) ?_
    refine jr_iload rfl rfl ?_
    refine jr_iald (len := 401) rfl rfl rfl (by omega) ?_
    refine jr_iload rfl rfl ?_
    refine jr_icmp_ne rfl (fun c19 => ?_) (fun c19 => ?_)
    · refine jr_ic rfl ?_
      refine jr_iast (len := 401) rfl rfl rfl (by omega) ?_
      simp only [jL_56, jL_r56]
      refine jr_aload rfl rfl ?_
      refine jr_aload rfl rfl ?_
      refine jr_getI rfl rfl ?_
      refine jr_iload rfl rfl ?_
      refine jr_cs2 (mc' := 0) (ms' := 0) rfl jm_Math_max_n jm_Math_max_f rfl rfl rfl rfl rfl (Nat.zero_le _) (Nat.zero_le _) ?_
      refine ev_Math_max ?_
      refine jr_putI rfl rfl ?_
      simp only [jL_4, jL_r4]
      refine jr_vret rfl rfl (Nat.zero_le _) (Nat.zero_le _) ?_
      refine k _ (fun x y h1 h2 => ?_) ?_ (fun f hf => ?_) ?_
      · exact (jL_un h2).trans (jL_un h1)
      · show upd (S 56 0) q _ = _
        rw [if_neg (show ¬ (S 56 0 q = -1 ∨ S 56 0 q = nI w) from fun z => z.elim c13 c19)]
      · show upd (S 4 0) 6 _ f = S 4 0 f
        exact jg_un hf
      · exact (congrFun (jL_us _ _ _ _) 6).trans (jg_us _ _ _)
    · refine jr_iload rfl rfl ?_
      refine jr_goto rfl ?_
      refine jr_iast (len := 401) rfl rfl rfl (by omega) ?_
      simp only [jL_56, jL_r56]
      refine jr_aload rfl rfl ?_
      refine jr_aload rfl rfl ?_
      refine jr_getI rfl rfl ?_
      refine jr_iload rfl rfl ?_
      refine jr_cs2 (mc' := 0) (ms' := 0) rfl jm_Math_max_n jm_Math_max_f rfl rfl rfl rfl rfl (Nat.zero_le _) (Nat.zero_le _) ?_
      refine ev_Math_max ?_
      refine jr_putI rfl rfl ?_
      simp only [jL_4, jL_r4]
      refine jr_vret rfl rfl (Nat.zero_le _) (Nat.zero_le _) ?_
      refine k _ (fun x y h1 h2 => ?_) ?_ (fun f hf => ?_) ?_
      · exact (jL_un h2).trans (jL_un h1)
      · show upd (S 56 0) q _ = _
        rw [if_pos (show S 56 0 q = -1 ∨ S 56 0 q = nI w from Or.inr c19)]
      · show upd (S 4 0) 6 _ f = S 4 0 f
        exact jg_un hf
      · exact (congrFun (jL_us _ _ _ _) 6).trans (jg_us _ _ _)

set_option maxHeartbeats 800000 in
set_option maxRecDepth 100000 in
theorem lp_ga1 {d n0 : Nat} {Q : Option jx_V → jx_H → Prop} {h : jx_H} {kk : Int32} (S : Nat → Nat → Nat → Int32) (i : Nat) (hi : i ≤ 401) (h0 : ∀ j, j < i → S 56 0 j = -1) (k : ∀ S' : Nat → Nat → Nat → Int32, (∀ x y, ¬ (x = 56 ∧ y = 0) → S' x y = S x y) → (∀ j, j < 401 → S' 56 0 j = -1) → jx_W (jm_Led_gather, d + 3, 0, 0, false, 0, n0) Q 0 0 15 [some (jv_r 4 0), some (jv_i kk), some (jv_i (nI 401)), none] [] (jL h S'))  : jx_W (jm_Led_gather, d + 3, 0, 0, false, 0, n0) Q 0 0 5 [some (jv_r 4 0), some (jv_i kk), some (jv_i (nI i)), none] [] (jL h S) := by
  refine jr_iload rfl rfl ?_
  refine jr_ic rfl ?_
  refine jr_icmp_gt rfl (fun c7 => ?_) (fun c7 => ?_)
  · have hi2 : i = 401 := by have := jn_lt (show nI 400 < nI i from c7) (by decide) (by omega); omega
    subst hi2
    exact k S (fun _ _ _ => rfl) h0
  · have hi1 : i ≤ 400 := jn_nlt (show ¬ nI 400 < nI i from c7) (by decide) (by omega)
    refine jr_aload rfl rfl ?_
    refine jr_getR rfl rfl rfl rfl (Or.inl rfl) ?_
    refine jr_iload rfl rfl ?_
    refine jr_ic rfl ?_
    refine jr_iast (len := 401) rfl rfl rfl (by omega) ?_
    simp only [jL_56, jL_r56]
    refine jr_iinc2 rfl rfl ?_
    refine jr_goto rfl ?_
    rw [jn_S]
    refine lp_ga1 _ (i + 1) (by omega) (fun j hj => ?_) (fun S' f' => k S' (fun x y h1 => (f' x y h1).trans (jL_un h1)))
    show upd (S 56 0) i (-1) j = -1
    by_cases e : j = i
    · rw [e, jg_us]
    · rw [jg_un e]; exact h0 j (by omega)
termination_by 401 - i
decreasing_by all_goals omega

set_option maxHeartbeats 800000 in
set_option maxRecDepth 100000 in
theorem lp_ga2 {d n0 : Nat} {Q : Option jx_V → jx_H → Prop} {h : jx_H} {kk : Int32} {q st : Nat → Nat} {cn : Nat → Bool} {n : Nat} (S : Nat → Nat → Nat → Int32) (i : Nat) (x3 : Option jx_V) (hn : n ≤ 30) (hL : ∀ j, j < n → jh_I h 52 0 j = nI (q j) ∧ q j ≤ 400 ∧ jh_I h 53 0 j = nI (st j) ∧ (cn j = true ↔ jh_I h 54 0 j ≤ kk ∧ (jh_I h 55 0 j = -1 ∨ kk < jh_I h 55 0 j))) (h4 : S 4 0 4 = nI n) (hi : i ≤ n) (hN : ∀ e, e ≤ 400 → S 56 0 e = jl_nd q st cn i e) (h6 : (S 4 0 6).toInt = (jl_lst q cn i : Int) - 1) (k : ∀ S' : Nat → Nat → Nat → Int32, (∀ x y, ¬ (x = 56 ∧ y = 0) → ¬ (x = 4 ∧ y = 0) → S' x y = S x y) → (∀ e, e ≤ 400 → S' 56 0 e = jl_nd q st cn n e) → (S' 4 0 6).toInt = (jl_lst q cn n : Int) - 1 → (∀ f, f ≠ 6 → S' 4 0 f = S 4 0 f) → Q none (jL h S'))  : jx_W (jm_Led_gather, d + 3, 0, 0, false, 0, n0) Q 0 0 17 [some (jv_r 4 0), some (jv_i kk), some (jv_i (nI i)), x3] [] (jL h S) := by
  refine jr_iload rfl rfl ?_
  refine jr_aload rfl rfl ?_
  refine jr_getI rfl rfl ?_
  rw [show jh_I (jL h S) 4 0 4 = nI n from h4]
  refine jr_icmp_ge rfl (fun c20 => ?_) (fun c20 => ?_)
  · refine jr_vret rfl rfl (Nat.zero_le _) (Nat.zero_le _) ?_
    have hi2 : i = n := by have := jn_le (show nI n ≤ nI i from c20) (by omega) (by omega); omega
    subst hi2
    exact k S (fun _ _ _ _ => rfl) hN h6 (fun _ _ => rfl)
  · have hi1 : i < n := jn_nle (show ¬ nI n ≤ nI i from c20) (by omega) (by omega)
    refine jr_iload rfl rfl ?_
    refine jr_ic rfl ?_
    refine jr_icmp_ge rfl (fun z => absurd z (nI_ge (a := i) (b := 30) (by omega) (by decide))) (fun _ => ?_)
    refine jr_aload rfl rfl ?_
    refine jr_getR rfl rfl rfl rfl (Or.inl rfl) ?_
    refine jr_iload rfl rfl ?_
    refine jr_iald (len := 30) rfl rfl rfl (by omega) ?_
    refine jr_ic rfl ?_
    refine jr_icmp_eq rfl (fun c29 => ?_) (fun c29 => ?_)
    · refine jr_ic rfl ?_
      refine jr_ist3 rfl rfl ?_
      refine jr_aload rfl rfl ?_
      refine jr_getR rfl rfl rfl rfl (Or.inl rfl) ?_
      refine jr_iload rfl rfl ?_
      refine jr_iald (len := 30) rfl rfl rfl (by omega) ?_
      refine jr_iload rfl rfl ?_
      refine jr_icmp_gt rfl (fun c45 => ?_) (fun c45 => ?_)
      · refine jr_iinc2 rfl rfl ?_
        refine jr_goto rfl ?_
        have hcn : ¬ cn i = true := fun z => by
          have z := (hL i hi1).2.2.2.mp z
          exact absurd z.1 (Int32.not_le.mpr c45)
        rw [jn_S]
        exact lp_ga2 S (i + 1) _ hn hL h4 (by omega) (fun e he => by rw [jl_nd, if_neg hcn]; exact hN e he) (by rw [jl_lst, if_neg hcn]; exact h6) k
      · refine jr_iload rfl rfl ?_
        refine jr_if_ne rfl (fun z => absurd (by decide) z) (fun _ => ?_)
        refine jr_aload rfl rfl ?_
        refine jr_aload rfl rfl ?_
        refine jr_getR rfl rfl rfl rfl (Or.inl rfl) ?_
        refine jr_iload rfl rfl ?_
        refine jr_iald (len := 30) rfl rfl rfl (by omega) ?_
        rw [show jh_I (jL h S) 52 0 i = nI (q i) from (hL i hi1).1]
        refine jr_aload rfl rfl ?_
        refine jr_getR rfl rfl rfl rfl (Or.inl rfl) ?_
        refine jr_iload rfl rfl ?_
        refine jr_iald (len := 30) rfl rfl rfl (by omega) ?_
        rw [show jh_I (jL h S) 53 0 i = nI (st i) from (hL i hi1).2.2.1]
        refine jr_cv2 (mc' := 0) (ms' := 0) rfl jm_Led_need_n jm_Led_need_f rfl rfl rfl rfl rfl rfl rfl (Nat.zero_le _) (Nat.zero_le _) ?_
        refine ev_need (hL i hi1).2.1 (fun S1 f1 g1 g2 g3 => ?_)
        refine jr_iinc2 rfl rfl ?_
        refine jr_goto rfl ?_
        have hcn : cn i = true := (hL i hi1).2.2.2.mpr ⟨Int32.not_lt.mp c45, Or.inl c29⟩
        rw [jn_S]
        refine lp_ga2 S1 (i + 1) _ hn hL ((g2 4 (by decide)).trans h4) (by omega) (fun e he => ?_) ?_ (fun S' f' k1 k2 k3 => k S' (fun x y z1 z2 => (f' x y z1 z2).trans (f1 x y z1 z2)) k1 k2 (fun f hf => (k3 f hf).trans (g2 f hf)))
        · rw [g1, jl_nd, if_pos hcn]
          by_cases z : e = q i
          · rw [z, jg_us, jg_us, hN _ (hL i hi1).2.1]
          · rw [jg_un z, jg_un z]; exact hN e he
        · rw [g3, jl_lst, if_pos hcn]
          have hq4 := (hL i hi1).2.1
          split
          · rename_i z
            rw [Int32.le_iff_toInt_le, nI_toInt (by omega)] at z
            omega
          · rename_i z
            rw [Int32.le_iff_toInt_le, nI_toInt (by omega)] at z
            rw [nI_toInt (by omega)]
            omega
    · refine jr_aload rfl rfl ?_
      refine jr_getR rfl rfl rfl rfl (Or.inl rfl) ?_
      refine jr_iload rfl rfl ?_
      refine jr_iald (len := 30) rfl rfl rfl (by omega) ?_
      refine jr_iload rfl rfl ?_
      refine jr_icmp_gt rfl (fun c35 => ?_) (fun c35 => ?_)
      · refine jr_ic rfl ?_
        refine jr_ist3 rfl rfl ?_
        refine jr_aload rfl rfl ?_
        refine jr_getR rfl rfl rfl rfl (Or.inl rfl) ?_
        refine jr_iload rfl rfl ?_
        refine jr_iald (len := 30) rfl rfl rfl (by omega) ?_
        refine jr_iload rfl rfl ?_
        refine jr_icmp_gt rfl (fun c45 => ?_) (fun c45 => ?_)
        · refine jr_iinc2 rfl rfl ?_
          refine jr_goto rfl ?_
          have hcn : ¬ cn i = true := fun z => by
            have z := (hL i hi1).2.2.2.mp z
            exact absurd z.1 (Int32.not_le.mpr c45)
          rw [jn_S]
          exact lp_ga2 S (i + 1) _ hn hL h4 (by omega) (fun e he => by rw [jl_nd, if_neg hcn]; exact hN e he) (by rw [jl_lst, if_neg hcn]; exact h6) k
        · refine jr_iload rfl rfl ?_
          refine jr_if_ne rfl (fun z => absurd (by decide) z) (fun _ => ?_)
          refine jr_aload rfl rfl ?_
          refine jr_aload rfl rfl ?_
          refine jr_getR rfl rfl rfl rfl (Or.inl rfl) ?_
          refine jr_iload rfl rfl ?_
          refine jr_iald (len := 30) rfl rfl rfl (by omega) ?_
          rw [show jh_I (jL h S) 52 0 i = nI (q i) from (hL i hi1).1]
          refine jr_aload rfl rfl ?_
          refine jr_getR rfl rfl rfl rfl (Or.inl rfl) ?_
          refine jr_iload rfl rfl ?_
          refine jr_iald (len := 30) rfl rfl rfl (by omega) ?_
          rw [show jh_I (jL h S) 53 0 i = nI (st i) from (hL i hi1).2.2.1]
          refine jr_cv2 (mc' := 0) (ms' := 0) rfl jm_Led_need_n jm_Led_need_f rfl rfl rfl rfl rfl rfl rfl (Nat.zero_le _) (Nat.zero_le _) ?_
          refine ev_need (hL i hi1).2.1 (fun S1 f1 g1 g2 g3 => ?_)
          refine jr_iinc2 rfl rfl ?_
          refine jr_goto rfl ?_
          have hcn : cn i = true := (hL i hi1).2.2.2.mpr ⟨Int32.not_lt.mp c45, Or.inr c35⟩
          rw [jn_S]
          refine lp_ga2 S1 (i + 1) _ hn hL ((g2 4 (by decide)).trans h4) (by omega) (fun e he => ?_) ?_ (fun S' f' k1 k2 k3 => k S' (fun x y z1 z2 => (f' x y z1 z2).trans (f1 x y z1 z2)) k1 k2 (fun f hf => (k3 f hf).trans (g2 f hf)))
          · rw [g1, jl_nd, if_pos hcn]
            by_cases z : e = q i
            · rw [z, jg_us, jg_us, hN _ (hL i hi1).2.1]
            · rw [jg_un z, jg_un z]; exact hN e he
          · rw [g3, jl_lst, if_pos hcn]
            have hq4 := (hL i hi1).2.1
            split
            · rename_i z
              rw [Int32.le_iff_toInt_le, nI_toInt (by omega)] at z
              omega
            · rename_i z
              rw [Int32.le_iff_toInt_le, nI_toInt (by omega)] at z
              rw [nI_toInt (by omega)]
              omega
      · refine jr_ic rfl ?_
        refine jr_goto rfl ?_
        refine jr_ist3 rfl rfl ?_
        refine jr_aload rfl rfl ?_
        refine jr_getR rfl rfl rfl rfl (Or.inl rfl) ?_
        refine jr_iload rfl rfl ?_
        refine jr_iald (len := 30) rfl rfl rfl (by omega) ?_
        refine jr_iload rfl rfl ?_
        refine jr_icmp_gt rfl (fun c45 => ?_) (fun c45 => ?_)
        · refine jr_iinc2 rfl rfl ?_
          refine jr_goto rfl ?_
          have hcn : ¬ cn i = true := fun z => by
            have z := (hL i hi1).2.2.2.mp z
            exact absurd z.1 (Int32.not_le.mpr c45)
          rw [jn_S]
          exact lp_ga2 S (i + 1) _ hn hL h4 (by omega) (fun e he => by rw [jl_nd, if_neg hcn]; exact hN e he) (by rw [jl_lst, if_neg hcn]; exact h6) k
        · refine jr_iload rfl rfl ?_
          refine jr_if_ne rfl (fun _ => ?_) (fun z => absurd z (by decide))
          refine jr_iinc2 rfl rfl ?_
          refine jr_goto rfl ?_
          have hcn : ¬ cn i = true := fun z => by
            have z := (hL i hi1).2.2.2.mp z
            exact z.2.elim c29 c35
          rw [jn_S]
          exact lp_ga2 S (i + 1) _ hn hL h4 (by omega) (fun e he => by rw [jl_nd, if_neg hcn]; exact hN e he) (by rw [jl_lst, if_neg hcn]; exact h6) k
termination_by n - i
decreasing_by all_goals omega

set_option maxHeartbeats 800000 in
set_option maxRecDepth 100000 in
theorem ev_gather {d : Nat} {h : jx_H} {Q : Option jx_V → jx_H → Prop} {kk : Int32} {q st : Nat → Nat} {cn : Nat → Bool} {n : Nat} {S : Nat → Nat → Nat → Int32} (hn : n ≤ 30) (hL : ∀ j, j < n → jh_I h 52 0 j = nI (q j) ∧ q j ≤ 400 ∧ jh_I h 53 0 j = nI (st j) ∧ (cn j = true ↔ jh_I h 54 0 j ≤ kk ∧ (jh_I h 55 0 j = -1 ∨ kk < jh_I h 55 0 j))) (h4 : S 4 0 4 = nI n) (k : ∀ S' : Nat → Nat → Nat → Int32, (∀ x y, ¬ (x = 56 ∧ y = 0) → ¬ (x = 4 ∧ y = 0) → S' x y = S x y) → (∀ e, e ≤ 400 → S' 56 0 e = jl_nd q st cn n e) → (S' 4 0 6).toInt = (jl_lst q cn n : Int) - 1 → (∀ f, f ≠ 6 → S' 4 0 f = S 4 0 f) → Q none (jL h S'))  : jx_Ev jm_Led_gather (d + 3) 0 0 false 0 [jv_r 4 0, jv_i kk] (jL h S) Q := by
  show jx_W (jm_Led_gather, d + 3, 0, 0, false, 0, _) Q 0 0 0 [some (jv_r 4 0), some (jv_i kk), none, none] [] _
  refine jr_aload rfl rfl ?_
  refine jr_ic rfl ?_
  refine jr_putI rfl rfl ?_
  simp only [jL_4, jL_r4]
  refine jr_ic rfl ?_
  refine jr_ist2 rfl rfl ?_
  refine lp_ga1 _ 0 (by omega) (fun j hj => absurd hj (by omega)) (fun S1 f1 h1 => ?_)
  refine jr_ic rfl ?_
  refine jr_ist2 rfl rfl ?_
  have e4 : S1 4 0 = upd (S 4 0) 6 (-1) := (f1 4 0 (by omega)).trans (jL_us _ _ _ _)
  refine lp_ga2 S1 0 _ hn hL (by rw [e4]; exact h4) (Nat.zero_le _) (fun e he => h1 e (by omega)) (by rw [e4]; rfl) (fun S' f' k1 k2 k3 => k S' (fun x y z1 z2 => (f' x y z1 z2).trans ((f1 x y z1).trans (jL_un z2))) k1 k2 (fun f hf => (k3 f hf).trans (by rw [e4]; exact jg_un hf)))

set_option maxHeartbeats 800000 in
set_option maxRecDepth 100000 in
theorem lp_la {d n0 : Nat} {Q : Option jx_V → jx_H → Prop} {h : jx_H} {m s t : Nat} {N : Nat → Int32} (x : Nat) (hN : ∀ e, e ≤ 400 → jh_I h 56 0 e = N e) (hm : m < 6) (hs : s + t ≤ 400) (hx : 1 ≤ x) (hxt : x ≤ t + 1) (k : Q (some (jv_i (nI (jl_la (jl_gg N m s) (t + 1 - x) x)))) h)  : jx_W (jm_Led_longestAgreeing, d + 2, 0, 0, false, 0, n0) Q 0 0 2 [some (jv_r 4 0), some (jv_i (nI m)), some (jv_i (nI s)), some (jv_i (nI t)), some (jv_i (nI x))] [] h := by
  refine jr_iload rfl rfl ?_
  refine jr_iload rfl rfl ?_
  refine jr_icmp_gt rfl (fun c4 => ?_) (fun c4 => ?_)
  · refine jr_iload rfl rfl ?_
    refine jr_iret rfl rfl (Nat.zero_le _) (Nat.zero_le _) ?_
    have hx2 : x = t + 1 := by have := jn_lt (show nI t < nI x from c4) (by omega) (by omega); omega
    subst hx2
    rw [Nat.sub_self] at k
    exact k
  · have hx1 : x ≤ t := jn_nlt (show ¬ nI t < nI x from c4) (by omega) (by omega)
    rw [show t + 1 - x = (t + 1 - (x + 1)) + 1 by omega, jl_la] at k
    refine jr_aload rfl rfl ?_
    refine jr_iload rfl rfl ?_
    refine jr_iload rfl rfl ?_
    refine jr_iadd rfl ?_
    refine jr_ic rfl ?_
    refine jr_isub rfl ?_
    refine jr_iload rfl rfl ?_
    refine jr_iload rfl rfl ?_
    refine jr_cs2 (mc' := 0) (ms' := 0) rfl jm_Led_stampOf_n jm_Led_stampOf_f rfl rfl rfl rfl rfl (Nat.zero_le _) (Nat.zero_le _) ?_
    show jx_W (jm_Led_stampOf, _, _, _, _, _, _) _ 0 0 0 [some _, some _] [] _
    refine jr_iload rfl rfl ?_
    refine jr_ic rfl ?_
    refine jr_imul rfl ?_
    refine jr_iload rfl rfl ?_
    refine jr_iadd rfl ?_
    refine jr_iret rfl rfl (Nat.zero_le _) (Nat.zero_le _) ?_
    rw [show nI s + nI x - 1 = nI (s + x - 1) from jn_sub (jn_add rfl rfl) (jn_c 1) (by omega), show nI m * 32 + nI x = nI (m * 32 + x) from jn_add (jn_mul rfl (jn_c 32)) rfl]
    refine jr_cv2 (mc' := 0) (ms' := 0) rfl jm_Led_agrees_n jm_Led_agrees_f rfl rfl rfl rfl rfl rfl rfl (Nat.zero_le _) (Nat.zero_le _) ?_
    show jx_W (jm_Led_agrees, _, _, _, _, _, _) _ 0 0 0 [some _, some _, some _] [] _
    refine jr_iload rfl rfl ?_
    refine jr_if_lt rfl (fun z => absurd z (nI_pos (by omega))) (fun _ => ?_)
    refine jr_iload rfl rfl ?_
    refine jr_ic rfl ?_
    refine jr_icmp_gt rfl (fun z => absurd z (nI_nlt (a := 400) (b := s + x - 1) (by omega) (by decide))) (fun _ => ?_)
    refine jr_aload rfl rfl ?_
    refine jr_getR rfl rfl rfl rfl (Or.inl rfl) ?_
    refine jr_iload rfl rfl ?_
    refine jr_iald (len := 401) rfl rfl rfl (by omega) ?_
    refine jr_ic rfl ?_
    refine jr_icmp_eq rfl (fun c10Ledagrees => ?_) (fun c10Ledagrees => ?_)
    · refine jr_ic rfl ?_
      refine jr_goto rfl ?_
      refine jr_zret rfl rfl rfl (Nat.zero_le _) (Nat.zero_le _) ?_
      refine jr_if_ne rfl (fun _ => ?_) (fun z => absurd z (by decide))
      refine jr_iinc4 rfl rfl ?_
      refine jr_goto rfl ?_
      have hg : jl_gg N m s x = true := decide_eq_true (Or.inl ((hN (s + x - 1) (by omega)).symm.trans c10Ledagrees))
      rw [if_pos hg] at k
      rw [jn_S]
      exact lp_la (x + 1) hN hm hs (by omega) (by omega) k
    · refine jr_aload rfl rfl ?_
      refine jr_getR rfl rfl rfl rfl (Or.inl rfl) ?_
      refine jr_iload rfl rfl ?_
      refine jr_iald (len := 401) rfl rfl rfl (by omega) ?_
      refine jr_iload rfl rfl ?_
      refine jr_icmp_ne rfl (fun c16Ledagrees => ?_) (fun c16Ledagrees => ?_)
      · refine jr_ic rfl ?_
        refine jr_zret rfl rfl rfl (Nat.zero_le _) (Nat.zero_le _) ?_
        refine jr_if_ne rfl (fun z => absurd (by decide) z) (fun _ => ?_)
        refine jr_iload rfl rfl ?_
        refine jr_ic rfl ?_
        refine jr_isub rfl ?_
        refine jr_iret rfl rfl (Nat.zero_le _) (Nat.zero_le _) ?_
        have hg : ¬ jl_gg N m s x = true := fun z => (of_decide_eq_true z).elim (fun y => c10Ledagrees ((hN (s + x - 1) (by omega)).trans y)) (fun y => c16Ledagrees ((hN (s + x - 1) (by omega)).trans y))
        rw [if_neg hg] at k
        rw [show nI x - 1 = nI (x - 1) from jn_sub rfl (jn_c 1) (by omega)]
        exact k
      · refine jr_ic rfl ?_
        refine jr_goto rfl ?_
        refine jr_zret rfl rfl rfl (Nat.zero_le _) (Nat.zero_le _) ?_
        refine jr_if_ne rfl (fun _ => ?_) (fun z => absurd z (by decide))
        refine jr_iinc4 rfl rfl ?_
        refine jr_goto rfl ?_
        have hg : jl_gg N m s x = true := decide_eq_true (Or.inr ((hN (s + x - 1) (by omega)).symm.trans c16Ledagrees))
        rw [if_pos hg] at k
        rw [jn_S]
        exact lp_la (x + 1) hN hm hs (by omega) (by omega) k
termination_by t + 1 - x
decreasing_by all_goals omega

set_option maxHeartbeats 800000 in
set_option maxRecDepth 100000 in
theorem ev_LA {d : Nat} {h : jx_H} {Q : Option jx_V → jx_H → Prop} {m s t : Nat} {N : Nat → Int32} (hN : ∀ e, e ≤ 400 → jh_I h 56 0 e = N e) (hm : m < 6) (hs : s + t ≤ 400) (k : Q (some (jv_i (nI (jl_la (jl_gg N m s) t 1)))) h)  : jx_Ev jm_Led_longestAgreeing (d + 2) 0 0 false 0 [jv_r 4 0, jv_i (nI m), jv_i (nI s), jv_i (nI t)] h Q := by
  show jx_W (jm_Led_longestAgreeing, d + 2, 0, 0, false, 0, _) Q 0 0 0 [some (jv_r 4 0), some (jv_i (nI m)), some (jv_i (nI s)), some (jv_i (nI t)), none] [] _
  refine jr_ic rfl ?_
  refine jr_ist4 rfl rfl ?_
  exact lp_la 1 hN hm hs (Nat.le_refl _) (by omega) k

set_option maxHeartbeats 800000 in
set_option maxRecDepth 100000 in
theorem ev_monthAt {d : Nat} {h : jx_H} {Q : Option jx_V → jx_H → Prop} {hm : jx_H} {r b i : Nat} (hw : jz_W hm b) (hR : jy_R h r hm b) (h0 : 0 < jz_nm hm b) (hi : i < 2 ^ 31) (k : Q (some (jv_i (nI (i % jz_nm hm b)))) h)  : jx_Ev jm_Led_monthAt (d + 1) 0 0 false 0 [jv_r 7 r, jv_i (nI i)] h Q := by
  show jx_W (jm_Led_monthAt, d + 1, 0, 0, false, 0, _) Q 0 0 0 [some (jv_r 7 r), some (jv_i (nI i))] [] _
  have hnm := hw.2.2.1.1
  have e0 : jh_I h 7 r 0 = nI (jz_nm hm b) := hR.1.trans hnm.1
  refine jr_aload rfl rfl ?_
  refine jr_getI rfl rfl ?_
  rw [e0]
  refine jr_if_le rfl (fun z => absurd z (nI_nle h0 (by omega))) (fun _ => ?_)
  refine jr_iload rfl rfl ?_
  refine jr_aload rfl rfl ?_
  refine jr_getI rfl rfl ?_
  rw [e0]
  refine jr_cs2 (mc' := 0) (ms' := 0) rfl jm_Math_floorMod_n jm_Math_floorMod_f rfl rfl rfl rfl rfl (Nat.zero_le _) (Nat.zero_le _) ?_
  show jx_W (jm_Math_floorMod, _, _, _, _, _, _) _ 0 0 0 [some _, some _, none] [] _
  refine jr_iload rfl rfl ?_
  refine jr_iload rfl rfl ?_
  refine jr_irem rfl (nI_ne0 h0 (by omega)) ?_
  refine jr_ist2 rfl rfl ?_
  rw [show nI i - nI i / nI (jz_nm hm b) * nI (jz_nm hm b) = nI (i % jz_nm hm b) from jn_rem hi (by omega) h0]
  refine jr_iload rfl rfl ?_
  refine jr_iload rfl rfl ?_
  refine jr_ixor rfl ?_
  refine jr_if_ge rfl (fun _ => ?_) (fun z => absurd (show 0 ≤ nI i ^^^ nI (jz_nm hm b) from Int32.not_lt.mp (fun z => nI_pos hi ((jn_xneg (by omega)).mp z))) z)
  refine jr_iload rfl rfl ?_
  refine jr_iret rfl rfl (Nat.zero_le _) (Nat.zero_le _) ?_
  refine jr_goto rfl ?_
  refine jr_iret rfl rfl (Nat.zero_le _) (Nat.zero_le _) ?_
  exact k

