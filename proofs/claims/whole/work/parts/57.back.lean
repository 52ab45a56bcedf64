theorem jw_ru_snoc {hm : jx_H} {b : Nat} : ∀ {n : Nat} {a : jw_A}, jw_ru hm b (n + 1) a = jw_re hm b (jw_counted (ju_I hm 98 0 (jw_ru hm b n a)) b) (jw_ru hm b n a)
  | 0, _ => rfl
  | n + 1, a => by rw [jw_ru, jw_ru_snoc]; rfl
theorem jy_T_upd' {n : Nat} {T : Nat → Nat → Int32} {a : jw_A} {q : Nat} {l : Int32} (h : jy_T n T (upd a q l)) (hq : 37 ≤ q) : jy_T n T a := by
  obtain ⟨h1, h2, h3, h4⟩ := h
  refine ⟨h1.trans (jg_un (by omega)), h2.trans (jg_un (by omega)), fun p hp => ⟨(h3 p hp).1.trans (jg_un (by omega)), fun q2 => ((h3 p hp).2 q2).trans (jg_un (by omega))⟩, fun d hd => ⟨(h4 d hd).1.trans (jg_un (by omega)), (h4 d hd).2.1.trans (jg_un (by omega)), ?_⟩⟩
  have := (h4 d hd).2.2
  rw [jg_un (show (36 : Nat) ≠ q by omega)] at this
  exact this
set_option maxHeartbeats 800000 in
set_option maxRecDepth 100000 in
theorem lp_takeBack {d n0 : Nat} {Q : Option jx_V → jx_H → Prop} {h hm : jx_H} {b r n w kc : Nat} {a : jw_A} {S T : Nat → Nat → Int32} (k : Nat) (hB : jz_B hm b) (hmo : ¬ jC hm b 0 0 = 0) (hR : jy_R h r hm b) (hG : jz_G hm b a) (hw : a 0 = nI w) (hn60 : n ≤ 60) (hwn : w + n ≤ 300) (hk : k ≤ n) (hT : jy_T (jy_np h r) T (jw_ru hm b (n - k) a)) (hL : ∀ j, j < w + (n - k) → T 31 j = jw_ru hm b (n - k) a (37 + j))
  (kk : ∀ (T' : Nat → Nat → Int32), jy_T (jy_np h r) T' a → (∀ j, j < w → T' 31 j = a (37 + j)) → Q none (jP (jK h 0 T' (r + 1)) S kc))  : jx_W (jm_JV_takeBack, d + 6, 0, 0, false, 0, n0) Q 0 0 2 [some (jv_r 10 0), some (jv_i (nI n)), some (jv_i (nI k))] [] (jP (jK h 0 T (r + 1)) S kc) := by
  refine jr_iload rfl rfl ?_
  refine jr_iload rfl rfl ?_
  refine jr_icmp_ge rfl (fun c4 => ?_) (fun c4 => ?_)
  · refine jr_vret rfl rfl (Nat.zero_le _) (Nat.zero_le _) ?_
    have hk2 : n ≤ k := jn_le (show nI n ≤ nI k from c4) (by omega) (by omega)
    rw [show n - k = 0 by omega] at hT hL
    exact kk T hT (fun j hj => hL j (by omega))
  · have hk1 : k < n := jn_nle (show ¬ nI n ≤ nI k from c4) (by omega) (by omega)
    have hn : n - k = (n - (k + 1)) + 1 := by omega
    obtain ⟨p1, p2, p3, p4⟩ := jz_G_ru hB hmo hG hw (n := n - (k + 1)) (by omega)
    obtain ⟨v, hv, hv2⟩ := jw_counted_in (jz_W_G hB p1) hmo
    obtain ⟨q1, q2, q3, q4, q5⟩ := jz_G_re hB.2.2 hmo p1 p2 (by omega) hv2
    rw [hn, jw_ru_snoc, show jw_counted (ju_I hm 98 0 (jw_ru hm b (n - (k + 1)) a)) b = nI v from hv] at hT hL
    have hl : T 31 (w + (n - (k + 1))) = nI v := (hL _ (by omega)).trans q4
    refine jr_aload rfl rfl ?_
    refine jr_getR rfl rfl rfl rfl (Or.inl rfl) ?_
    refine jr_cv0 (mc' := 0) (ms' := 0) rfl jm_Cal_goes_n jm_Cal_goes_f rfl rfl rfl rfl rfl rfl rfl (Nat.zero_le _) (Nat.zero_le _) ?_
    refine ev_goes0 (hm := hm) (b := b) (w := w + (n - (k + 1))) hB.2.2 hR hmo hT q2 (by omega) hl (nI_pos' (by omega)) (fun T1 hT1 hL1 => ?_)
    rw [jw_re_eq p2 (by omega), jw_bk_gb hB.2.2] at hT1
    have hT2 := jy_T_upd' hT1 (by omega)
    refine jr_iinc2 rfl rfl ?_
    refine jr_goto rfl ?_
    rw [jn_S]
    refine lp_takeBack (T := T1) (k + 1) hB hmo hR hG hw hn60 hwn (by omega) hT2 (fun j hj => ?_) kk
    rw [hL1, hL j (by omega)]
    exact q3 j hj
termination_by n - k
decreasing_by all_goals omega

theorem eB_takeBack {d : Nat} {h hm : jx_H} {Q : Option jx_V → jx_H → Prop} {b r n w : Nat} {a : jw_A} (hB : jz_B hm b) (hmo : ¬ jC hm b 0 0 = 0) (hR : jy_R h r hm b) (hA : jy_A h 0 r (jw_ru hm b n a)) (hL : jy_L h 0 (jw_ru hm b n a)) (hG : jz_G hm b a) (hw : a 0 = nI w) (hn60 : n ≤ 60) (hwn : w + n ≤ 300)
    (kk : ∀ (T' S' : Nat → Nat → Int32) (kc' : Nat), jy_T (jy_np h r) T' a → (∀ j, j < w → T' 31 j = a (37 + j)) → Q none (jP (jK h 0 T' (r + 1)) S' kc')) : jx_Ev jm_JV_takeBack (d + 6) 0 0 false 0 [jv_r 10 0, jv_i (nI n)] h Q := by
  show jx_W (jm_JV_takeBack, d + 6, 0, 0, false, 0, _) Q 0 0 0 [some (jv_r 10 0), some (jv_i (nI n)), none] [] _
  refine jr_ic rfl ?_
  refine jr_ist2 rfl rfl ?_
  have p2 := (jz_G_ru hB hmo hG hw hwn).2.1
  have e := lp_takeBack (d := d) (n0 := jh_n h) (Q := Q) (h := h) (hm := hm) (b := b) (r := r) (n := n) (w := w) (a := a) (T := fun x => jh_I h x 0) (S := fun x => jh_I h x 0) (kc := jh_M h 5 0 5) 0 hB hmo hR hG hw hn60 hwn (Nat.zero_le _) (jy_A_T hA) (fun j hj => hL j (by rw [jn_1 p2 (by omega)]; exact hj)) (fun T' h1 h2 => kk T' _ _ h1 h2)
  rw [jK_0 hA] at e
  exact e
set_option maxHeartbeats 800000 in
set_option maxRecDepth 100000 in
theorem lp_exchange {d n0 : Nat} {Q : Option jx_V → jx_H → Prop} {h : jx_H} {n : Nat} (W A : Nat → Int32) (j : Nat) (hn : jh_I h 11 0 60 = nI n) (hn2 : n ≤ 40) (hj : j ≤ 337) (w1 : ∀ q, q < j → W (337 * n + q) = jA h q) (w2 : ∀ q, q < 337 * n ∨ 337 * n + j ≤ q → W q = jh_I h 103 0 q) (a1 : ∀ q, q < j → A q = jh_I h 103 0 (337 * n + q)) (a2 : ∀ q, j ≤ q → A q = jA h q)
  (kk : ∀ (W A : Nat → Int32), (∀ q, q < 337 → W (337 * n + q) = jA h q) → (∀ q, q < 337 * n ∨ 337 * n + 337 ≤ q → W q = jh_I h 103 0 q) → (∀ q, q < 337 → A q = jh_I h 103 0 (337 * n + q)) → (∀ q, 337 ≤ q → A q = jA h q) → Q none (ju_I (ju_I h 103 0 W) 98 0 A))  : jx_W (jm_MD_exchange, d, 0, 0, false, 1, n0) Q 0 0 2 [some (jv_r 11 0), some (jv_i (nI j)), none] [] (ju_I (ju_I h 103 0 W) 98 0 A) := by
  refine jr_iload rfl rfl ?_
  refine jr_ic rfl ?_
  refine jr_icmp_ge rfl (fun c4 => ?_) (fun c4 => ?_)
  · refine jr_vret rfl rfl (Nat.zero_le _) (Nat.zero_le _) ?_
    have hx1 : 337 ≤ j := jn_le (show nI 337 ≤ nI j from c4) (by omega) (by omega)
    obtain rfl : j = 337 := by omega
    exact kk W A w1 w2 a1 a2
  · have hl1 : j < 337 := jn_nle (show ¬ nI 337 ≤ nI j from c4) (by omega) (by omega)
    refine jr_aload rfl rfl ?_
    refine jr_getR rfl rfl rfl rfl (Or.inl rfl) ?_
    refine jr_ic rfl ?_
    refine jr_aload rfl rfl ?_
    refine jr_getI rfl rfl ?_
    refine jr_imul rfl ?_
    refine jr_iload rfl rfl ?_
    refine jr_iadd rfl ?_
    refine jr_iald (len := 13817) rfl rfl (jn_add (jn_mul (show _ = nI 337 from rfl) hn) rfl) (by omega) ?_
    refine jr_ist2 rfl rfl ?_
    refine jr_aload rfl rfl ?_
    refine jr_getR rfl rfl rfl rfl (Or.inl rfl) ?_
    refine jr_ic rfl ?_
    refine jr_aload rfl rfl ?_
    refine jr_getI rfl rfl ?_
    refine jr_imul rfl ?_
    refine jr_iload rfl rfl ?_
    refine jr_iadd rfl ?_
    refine jr_aload rfl rfl ?_
    refine jr_getR rfl rfl rfl rfl (Or.inl rfl) ?_
    refine jr_iload rfl rfl ?_
    refine jr_iald (len := 337) rfl rfl rfl (by omega) ?_
    refine jr_iast (len := 13817) rfl rfl (jn_add (jn_mul (show _ = nI 337 from rfl) hn) rfl) (by omega) ?_
    rw [jg_com (k := 98) (i := 0) (k' := 103) (i' := 0) _ _ _ (fun z => absurd z.1 (by decide)), jg_uu]
    refine jr_aload rfl rfl ?_
    refine jr_getR rfl rfl rfl rfl (Or.inl rfl) ?_
    refine jr_iload rfl rfl ?_
    refine jr_iload rfl rfl ?_
    refine jr_iast (len := 337) rfl rfl rfl (by omega) ?_
    rw [jg_uu]
    refine jr_iinc1 rfl rfl ?_
    refine jr_goto rfl ?_
    rw [jn_S]
    refine jr_drop 2 (lp_exchange _ _ (j + 1) hn hn2 (by omega) (fun q hq => ?_) (fun q hq => ?_) (fun q hq => ?_) (fun q hq => ?_) kk)
    · show upd W (337 * n + j) (A j) (337 * n + q) = _
      by_cases e : q = j
      · rw [e, jg_us]; exact a2 j (by omega)
      · rw [jg_un (by omega)]; exact w1 q (by omega)
    · show upd W (337 * n + j) (A j) q = _
      rw [jg_un (by omega)]; exact w2 q (by omega)
    · show upd A j (W (337 * n + j)) q = _
      by_cases e : q = j
      · rw [e, jg_us]; exact w2 _ (by omega)
      · rw [jg_un e]; exact a1 q (by omega)
    · show upd A j (W (337 * n + j)) q = _
      rw [jg_un (by omega)]; exact a2 q (by omega)
termination_by 337 - j
decreasing_by all_goals omega

set_option maxHeartbeats 800000 in
set_option maxRecDepth 100000 in
theorem ev_exchange {d : Nat} {h : jx_H} {Q : Option jx_V → jx_H → Prop} {n : Nat} (hn : jh_I h 11 0 60 = nI n) (hn2 : n ≤ 40)
  (kk : ∀ (W A : Nat → Int32), (∀ q, q < 337 → W (337 * n + q) = jA h q) → (∀ q, q < 337 * n ∨ 337 * n + 337 ≤ q → W q = jh_I h 103 0 q) → (∀ q, q < 337 → A q = jh_I h 103 0 (337 * n + q)) → (∀ q, 337 ≤ q → A q = jA h q) → Q none (ju_I (ju_I h 103 0 W) 98 0 A))  : jx_Ev jm_MD_exchange (d) 0 0 false 1 [jv_r 11 0] h Q := by
  show jx_W (jm_MD_exchange, d, 0, 0, false, 1, _) Q 0 0 0 [some (jv_r 11 0), none, none] [] _
  refine jr_ic rfl ?_
  refine jr_ist1 rfl rfl ?_
  have e := lp_exchange (d := d) (n0 := jh_n h) (Q := Q) (h := h) (n := n) (jh_I h 103 0) (jA h) 0 hn hn2 (by omega) (fun q hq => absurd hq (by omega)) (fun _ _ => rfl) (fun q hq => absurd hq (by omega)) (fun _ _ => rfl) kk
  rw [jg_self, show ju_I h 98 0 (jA h) = h from jg_self _ _ _] at e
  exact e

theorem jPK_0 (h : jx_H) (T S : Nat → Nat → Int32) (m k : Nat) (f : Nat → Int32) : ju_I (jP (jK h 0 T m) S k) 0 0 f = jP (jK (ju_I h 0 0 f) 0 T m) S k := by
  unfold ju_I jP jK
  refine congrArg (·, _) ?_
  funext x y
  dsimp only
  by_cases e : x = 0 ∧ y = 0
  · rw [if_pos e, if_neg (fun z => absurd (show jk_p 0 = true from e.1 ▸ z.1) (by decide)), if_neg (fun z => absurd (show jk_c 0 = true from e.1 ▸ z.1) (by decide)), if_pos e]
  · simp only [if_neg e]
/-- both objects after undo, redo -/
theorem jz_Rel_un {hc hm : jx_H} {b r n u n' u' w' : Nat} {T S : Nat → Nat → Int32} {W F A F0 : Nat → Int32} {kc : Nat} {σ : Nat → jw_A}
    (hC : jz_C hc hm b r) (hTa : jz_Ta hc hm) (hFa : jz_Fa hc hm) (hLy : jz_Ly hc hm) (hTi : jz_Ti hc hm) (hLe : jz_Le hc hm b) (hBo : jz_Bo hc hm b r) (hWo : jz_Wo hc)
    (hnu : n + u ≤ 40) (hn' : n' + u' = n + u) (s4 : ∀ j, j ≤ n + u → jz_G hm b (σ j)) (s5 : ∀ j, j ≤ n + u → ∀ k, 337 ≤ k → σ j k = jA hm k)
    (s6 : ∀ j, j < n + u → jz_act hm b (jh_I hc 48 0 j) (jh_I hc 49 0 j) (jh_I hc 50 0 j) (jh_I hc 51 0 j) (σ j) (σ (j + 1)))
    (hA : A = σ n') (hT : jy_T (jy_np hc r) T (σ n')) (hw' : σ n' 0 = nI w') (hw2 : w' ≤ 300) (hL : ∀ j, j < w' → T 31 j = σ n' (37 + j)) (k1 : F0 4 = nI n' ∧ F0 5 = nI (n + u))
    (f1 : F 60 = nI n') (f2 : F 61 = nI u') (f3 : ∀ f, f ≠ 60 → f ≠ 61 → F f = jh_I hm 11 0 f) (w1 : ∀ j, j < n' → ∀ k, k < 337 → W (337 * j + k) = σ j k) (w2 : ∀ j, n' ≤ j → j < n' + u' → ∀ k, k < 337 → W (337 * j + k) = σ (j + 1) k) :
    jz_Rel (jP (jK (ju_I hc 0 0 F0) 0 T (r + 1)) S kc) (ju_I (ju_I (ju_I hm 11 0 F) 103 0 W) 98 0 A) := by
  have eN : jN (ju_I (ju_I (ju_I hm 11 0 F) 103 0 W) 98 0 A) = jN hm := by
    rw [jN_u _ _ _ _ rfl, jN_u _ _ _ _ rfl, jN_u _ _ _ _ rfl]
  obtain ⟨c1, c2, c3, c4, c5, c6, c7, c8⟩ := hC
  obtain ⟨t, t1, t2, t3⟩ := hTa
  obtain ⟨q1, q2⟩ := hFa
  obtain ⟨l, l1, l2, l3, l4⟩ := hLy
  obtain ⟨i, i1, i2, i3⟩ := hTi
  obtain ⟨e, e1, e2, e3, e4⟩ := hLe
  have hG' := s4 n' (by omega)
  subst hA
  refine ⟨b, r, ⟨⟨(f3 43 (by decide) (by decide)).trans c1.1, c1.2.1, c1.2.2.1, hG'.1⟩, hG', c3, c4, c5, c6, ⟨rfl, hT.1, hT.2.1, hT.2.2.1, hT.2.2.2⟩, fun j hj => hL j (Nat.lt_of_lt_of_eq hj (jn_1 hw' (by omega)))⟩,
    ⟨t, t1, (f3 2 (by decide) (by decide)).trans t2, t3⟩, ⟨q1.trans (f3 4 (by decide) (by decide)).symm, q2.trans (f3 5 (by decide) (by decide)).symm⟩,
    ⟨l, l1, l2, (f3 65 (by decide) (by decide)).trans l3, l4⟩, ⟨i, i1, i2, (f3 81 (by decide) (by decide)).trans i3⟩, ⟨e, e1, e2, (f3 80 (by decide) (by decide)).trans e3, e4⟩, ?_, ?_, hWo⟩
  · intro i hi
    obtain ⟨g1, g2⟩ := hBo i hi
    refine ⟨g1, g2.elim Or.inl (fun g => Or.inr ⟨g.1, ?_⟩)⟩
    obtain ⟨β, p1, p2, p3, p4, p5⟩ := g.2
    refine ⟨β, p1, ?_, ?_, p4, fun k hk => (p5 k hk).trans (s5 n' (by omega) k hk).symm⟩
    · rcases Nat.lt_or_ge i 1 with q | q
      · obtain rfl : i = 0 := by omega
        exact p2
      · rcases Nat.lt_or_ge i 2 with q | q
        · obtain rfl : i = 1 := by omega
          exact p2
        · obtain rfl : i = 2 := by omega
          exact p2
    · rcases Nat.lt_or_ge i 1 with q | q
      · obtain rfl : i = 0 := by omega
        exact p3
      · rcases Nat.lt_or_ge i 2 with q | q
        · obtain rfl : i = 1 := by omega
          exact p3
        · obtain rfl : i = 2 := by omega
          exact p3
  · refine ⟨n', u', by omega, k1.1, by rw [hn']; exact k1.2, f1, f2, σ, rfl, w1, w2, fun j hj => jz_G_t eN (s4 j (by omega)), fun j hj k hk => ?_, fun j hj => jz_act_t eN (s6 j (by omega))⟩
    rw [s5 j (by omega) k hk]
    exact (s5 n' (by omega) k hk).symm
