theorem jg_com (h : jx_H) {k i k' i' : Nat} (f g : Nat → Int32) (hk : ¬ (k = k' ∧ i = i')) : ju_I (ju_I h k i f) k' i' g = ju_I (ju_I h k' i' g) k i f := by
  unfold ju_I
  refine congrArg (·, h.2) ?_
  funext x y
  dsimp only
  by_cases e : x = k ∧ y = i
  · have e' : ¬ (x = k' ∧ y = i') := fun z => hk ⟨e.1.symm.trans z.1, e.2.symm.trans z.2⟩
    simp only [if_pos e, if_neg e']
  · simp only [if_neg e]
theorem ev_Acts_note {d : Nat} {h : jx_H} {Q : Option jx_V → jx_H → Prop} {n s : Nat} {x y z u : Int32} (hn : jh_I h 0 0 4 = nI n) (hs : (n < 40 ∧ s = 0) ∨ (n = 40 ∧ s = 1))
    (k : ∀ K' : Nat → Nat → Int32, (K' 0 4 = nI (n + 1 - s) ∧ K' 0 5 = nI (n + 1 - s)) → (∀ j, j < n - s → K' 48 j = jh_I h 48 0 (j + s) ∧ K' 49 j = jh_I h 49 0 (j + s) ∧ K' 50 j = jh_I h 50 0 (j + s) ∧ K' 51 j = jh_I h 51 0 (j + s)) → (K' 48 (n - s) = x ∧ K' 49 (n - s) = y ∧ K' 50 (n - s) = z ∧ K' 51 (n - s) = u) → Q none (jQ h K')) : jx_Ev jm_Acts_note (d + 2) 0 0 false 0 [jv_r 0 0, jv_i x, jv_i y, jv_i z, jv_i u] h Q := by
  rcases hs with ⟨h1, h2⟩ | ⟨h1, h2⟩
  · have := ev_Acts_note0 (d := d) (h := h) (Q := Q) (K := fun a => jh_I h a 0) hn h1 h2 k
    rw [jQ_self] at this
    exact this
  · have := ev_Acts_note1 (d := d) (h := h) (Q := Q) (K := fun a => jh_I h a 0) hn h1 h2 k
    rw [jQ_self] at this
    exact this
set_option maxHeartbeats 800000 in
set_option maxRecDepth 100000 in
theorem lp_keep1 {d n0 : Nat} {Q : Option jx_V → jx_H → Prop} {h : jx_H} {W0 : Nat → Int32} (W : Nat → Int32) (j : Nat) (hj : j ≤ 13480) (h1 : ∀ q, q < j → W q = W0 (q + 337)) (h2 : ∀ q, j ≤ q → W q = W0 q) (kk : ∀ W' : Nat → Int32, (∀ q, q < 13480 → W' q = W0 (q + 337)) → ∀ v : Option jx_V, jx_W (jm_MD_keepAct, d, 0, 0, false, 1, n0) Q 0 0 21 [some (jv_r 11 0), v] [] (ju_I h 103 0 W'))  : jx_W (jm_MD_keepAct, d, 0, 0, false, 1, n0) Q 0 0 6 [some (jv_r 11 0), some (jv_i (nI j))] [] (ju_I h 103 0 W) := by
  refine jr_iload rfl rfl ?_
  refine jr_ic rfl ?_
  refine jr_icmp_ge rfl (fun c8 => ?_) (fun c8 => ?_)
  · have hx1 : 13480 ≤ j := jn_le (show nI 13480 ≤ nI j from c8) (by omega) (by omega)
    exact kk W (fun q hq => h1 q (by omega)) _
  · have hl1 : j < 13480 := jn_nle (show ¬ nI 13480 ≤ nI j from c8) (by omega) (by omega)
    refine jr_aload rfl rfl ?_
    refine jr_getR rfl rfl rfl rfl (Or.inl rfl) ?_
    refine jr_iload rfl rfl ?_
    refine jr_aload rfl rfl ?_
    refine jr_getR rfl rfl rfl rfl (Or.inl rfl) ?_
    refine jr_iload rfl rfl ?_
    refine jr_ic rfl ?_
    refine jr_iadd rfl ?_
    refine jr_iald (len := 13817) rfl rfl (jn_add rfl (show _ = nI 337 from rfl)) (by omega) ?_
    refine jr_iast (len := 13817) rfl rfl rfl (by omega) ?_
    refine jr_iinc1 rfl rfl ?_
    refine jr_goto rfl ?_
    rw [jg_uu, jg_II, jn_S]
    refine lp_keep1 _ (j + 1) (by omega) (fun q hq => ?_) (fun q hq => (jg_un (by omega)).trans (h2 q (by omega))) kk
    show upd W j (W (j + 337)) q = _
    by_cases e : q = j
    · rw [e, jg_us, h2 _ (by omega)]
    · rw [jg_un e]; exact h1 q (by omega)
termination_by 13480 - j
decreasing_by all_goals omega

set_option maxHeartbeats 800000 in
set_option maxRecDepth 100000 in
theorem lp_keep2 {d n0 : Nat} {Q : Option jx_V → jx_H → Prop} {h : jx_H} {n : Nat} {W0 : Nat → Int32} (W : Nat → Int32) (j : Nat) (hn : jh_I h 11 0 60 = nI n) (hn2 : n ≤ 39) (hj : j ≤ 337) (h1 : ∀ q, q < j → W (337 * n + q) = jA h q) (h2 : ∀ q, q < 337 * n → W q = W0 q)
  (kk : ∀ (W' : Nat → Int32) (F : Nat → Int32), F 60 = nI (n + 1) → F 61 = 0 → (∀ f, f ≠ 60 → f ≠ 61 → F f = jh_I h 11 0 f) → (∀ q, q < 337 * n → W' q = W0 q) → (∀ q, q < 337 → W' (337 * n + q) = jA h q) → Q none (ju_I (ju_I h 103 0 W') 11 0 F))  : jx_W (jm_MD_keepAct, d, 0, 0, false, 1, n0) Q 0 0 29 [some (jv_r 11 0), some (jv_i (nI j))] [] (ju_I h 103 0 W) := by
  refine jr_iload rfl rfl ?_
  refine jr_ic rfl ?_
  refine jr_icmp_ge rfl (fun c31 => ?_) (fun c31 => ?_)
  · refine jr_aload rfl rfl ?_
    refine jr_dup_r rfl ?_
    refine jr_getI rfl rfl ?_
    refine jr_ic rfl ?_
    refine jr_iadd rfl ?_
    refine jr_putI rfl rfl ?_
    refine jr_aload rfl rfl ?_
    refine jr_ic rfl ?_
    refine jr_putI rfl rfl ?_
    refine jr_vret rfl rfl (Nat.zero_le _) (Nat.zero_le _) ?_
    have hx1 : 337 ≤ j := jn_le (show nI 337 ≤ nI j from c31) (by omega) (by omega)
    simp only [jg_uu, jg_II]
    refine kk W _ ?_ (jg_us _ _ _) (fun f h1 h2 => (jg_un h2).trans (jg_un h1)) h2 (fun q hq => h1 q (by omega))
    show jh_I h 11 0 60 + 1 = _
    rw [hn, ← nI_1]
  · have hl1 : j < 337 := jn_nle (show ¬ nI 337 ≤ nI j from c31) (by omega) (by omega)
    refine jr_aload rfl rfl ?_
    refine jr_getR rfl rfl rfl rfl (Or.inl rfl) ?_
    refine jr_ic rfl ?_
    refine jr_aload rfl rfl ?_
    refine jr_getI rfl rfl ?_
    refine jr_imul rfl ?_
    refine jr_iload rfl rfl ?_
    refine jr_iadd rfl ?_
    refine jr_aload rfl rfl ?_
    refine jr_getR rfl rfl rfl rfl (Or.inl rfl) ?_
    refine jr_iload rfl rfl ?_
    refine jr_iald (len := 337) rfl rfl rfl (by omega) ?_
    refine jr_iast (len := 13817) rfl rfl (jn_add (jn_mul (show _ = nI 337 from rfl) hn) rfl) (by omega) ?_
    refine jr_iinc1 rfl rfl ?_
    refine jr_goto rfl ?_
    rw [jg_uu, jg_II, jn_S]
    refine lp_keep2 _ (j + 1) hn hn2 (by omega) (fun q hq => ?_) (fun q hq => (jg_un (by omega)).trans (h2 q hq)) kk
    show upd W (337 * n + j) (jA h j) (337 * n + q) = _
    by_cases e : q = j
    · rw [e, jg_us]
    · rw [jg_un (by omega)]; exact h1 q (by omega)
termination_by 337 - j
decreasing_by all_goals omega

set_option maxHeartbeats 800000 in
set_option maxRecDepth 100000 in
theorem ev_keepAct0 {d : Nat} {h : jx_H} {Q : Option jx_V → jx_H → Prop} {n s : Nat} (hn : jh_I h 11 0 60 = nI n) (hn2 : n < 40) (hs : s = 0) (kk : ∀ (W' : Nat → Int32) (F : Nat → Int32), F 60 = nI (n + 1 - s) → F 61 = 0 → (∀ f, f ≠ 60 → f ≠ 61 → F f = jh_I h 11 0 f) → (∀ q, q < 337 * (n - s) → W' q = jh_I h 103 0 (q + 337 * s)) → (∀ q, q < 337 → W' (337 * (n - s) + q) = jA h q) → Q none (ju_I (ju_I h 103 0 W') 11 0 F))  : jx_Ev jm_MD_keepAct (d) 0 0 false 1 [jv_r 11 0] h Q := by
  show jx_W (jm_MD_keepAct, d, 0, 0, false, 1, _) Q 0 0 0 [some (jv_r 11 0), none] [] _
  refine jr_aload rfl rfl ?_
  refine jr_getI rfl rfl ?_
  refine jr_ic rfl ?_
  rw [hn]
  refine jr_icmp_ne rfl (fun _ => ?_) (fun z => absurd z (fun z => by have := jn_eq (b := 40) z (by omega) (by decide); omega))
  refine jr_ic rfl ?_
  refine jr_ist1 rfl rfl ?_
  subst hs
  have e := lp_keep2 (d := d) (n0 := jh_n h) (Q := Q) (h := h) (n := n) (W0 := jh_I h 103 0) (jh_I h 103 0) 0 hn (by omega) (by omega) (fun q hq => absurd hq (by omega)) (fun _ _ => rfl) (fun W' F f1 f2 f3 f4 f5 => kk W' F f1 f2 f3 f4 f5)
  rw [jg_self] at e
  exact e

set_option maxHeartbeats 800000 in
set_option maxRecDepth 100000 in
theorem ev_keepAct1 {d : Nat} {h : jx_H} {Q : Option jx_V → jx_H → Prop} {n s : Nat} (hn : jh_I h 11 0 60 = nI n) (hn2 : n = 40) (hs : s = 1) (kk : ∀ (W' : Nat → Int32) (F : Nat → Int32), F 60 = nI (n + 1 - s) → F 61 = 0 → (∀ f, f ≠ 60 → f ≠ 61 → F f = jh_I h 11 0 f) → (∀ q, q < 337 * (n - s) → W' q = jh_I h 103 0 (q + 337 * s)) → (∀ q, q < 337 → W' (337 * (n - s) + q) = jA h q) → Q none (ju_I (ju_I h 103 0 W') 11 0 F))  : jx_Ev jm_MD_keepAct (d) 0 0 false 1 [jv_r 11 0] h Q := by
  show jx_W (jm_MD_keepAct, d, 0, 0, false, 1, _) Q 0 0 0 [some (jv_r 11 0), none] [] _
  refine jr_aload rfl rfl ?_
  refine jr_getI rfl rfl ?_
  refine jr_ic rfl ?_
  rw [hn, hn2]
  refine jr_icmp_ne rfl (fun z => absurd rfl z) (fun _ => ?_)
  refine jr_ic rfl ?_
  refine jr_ist1 rfl rfl ?_
  subst hn2
  subst hs
  have e := lp_keep1 (d := d) (n0 := jh_n h) (Q := Q) (h := h) (W0 := jh_I h 103 0) (jh_I h 103 0) 0 (by omega) (fun q hq => absurd hq (by omega)) (fun _ _ => rfl) (fun W1 hW1 v => ?_)
  · rw [jg_self] at e
    exact e
  refine jr_aload rfl rfl ?_
  refine jr_dup_r rfl ?_
  refine jr_getI rfl rfl ?_
  refine jr_ic rfl ?_
  refine jr_isub rfl ?_
  refine jr_putI rfl rfl ?_
  refine jr_ic rfl ?_
  refine jr_ist1 rfl rfl ?_
  rw [jg_com _ _ _ (fun z => absurd z.1 (by decide))]
  have hn39 : jh_I (ju_I h 11 0 (upd (jh_I (ju_I h 103 0 W1) 11 0) 60 (jh_I (ju_I h 103 0 W1) 11 0 60 - 1))) 11 0 60 = nI 39 := by
    show jh_I h 11 0 60 - 1 = _
    rw [hn]; rfl
  refine lp_keep2 (d := d) (n0 := jh_n h) (Q := Q) (h := ju_I h 11 0 (upd (jh_I (ju_I h 103 0 W1) 11 0) 60 (jh_I (ju_I h 103 0 W1) 11 0 60 - 1))) (n := 39) (W0 := W1) W1 0 hn39 (by omega) (by omega) (fun q hq => absurd hq (by omega)) (fun _ _ => rfl) (fun W' F f1 f2 f3 f4 f5 => ?_)
  rw [jg_com _ _ _ (fun z => absurd z.1 (by decide)), jg_uu, jg_com _ _ _ (fun z => absurd z.1 (by decide))]
  refine kk W' F f1 f2 (fun f h1 h2 => (f3 f h1 h2).trans (jg_un h1)) (fun q hq => (f4 q hq).trans (hW1 q (by omega))) f5

theorem ev_keepAct {d : Nat} {h : jx_H} {Q : Option jx_V → jx_H → Prop} {n s : Nat} (hn : jh_I h 11 0 60 = nI n) (hs : (n < 40 ∧ s = 0) ∨ (n = 40 ∧ s = 1)) (kk : ∀ (W' : Nat → Int32) (F : Nat → Int32), F 60 = nI (n + 1 - s) → F 61 = 0 → (∀ f, f ≠ 60 → f ≠ 61 → F f = jh_I h 11 0 f) → (∀ q, q < 337 * (n - s) → W' q = jh_I h 103 0 (q + 337 * s)) → (∀ q, q < 337 → W' (337 * (n - s) + q) = jA h q) → Q none (ju_I (ju_I h 103 0 W') 11 0 F)) : jx_Ev jm_MD_keepAct d 0 0 false 1 [jv_r 11 0] h Q := by
  rcases hs with ⟨h1, h2⟩ | ⟨h1, h2⟩
  · exact ev_keepAct0 hn h1 h2 kk
  · exact ev_keepAct1 hn h1 h2 kk
/-- both objects after an act -/
theorem jz_Rel_act {hc hm : jx_H} {b r n s : Nat} {T S S' K : Nat → Nat → Int32} {W F : Nat → Int32} {a : jw_A} {kc : Nat} {x y z v : Int32} {σ : Nat → jw_A}
    (hC : jz_C hc hm b r) (hTa : jz_Ta hc hm) (hFa : jz_Fa hc hm) (hLy : jz_Ly hc hm) (hTi : jz_Ti hc hm) (hLe : jz_Le hc hm b) (hBo : jz_Bo hc hm b r) (hWo : jz_Wo hc)
    (hs : (n < 40 ∧ s = 0) ∨ (n = 40 ∧ s = 1)) (s1 : σ n = jA hm) (s2 : ∀ j, j < n → ∀ k, k < 337 → jh_I hm 103 0 (337 * j + k) = σ j k) (s4 : ∀ j, j ≤ n → jz_G hm b (σ j)) (s5 : ∀ j, j ≤ n → ∀ k, 337 ≤ k → σ j k = jA hm k)
    (s6 : ∀ j, j < n → jz_act hm b (jh_I hc 48 0 j) (jh_I hc 49 0 j) (jh_I hc 50 0 j) (jh_I hc 51 0 j) (σ j) (σ (j + 1)))
    (hG' : jz_G hm b a) (ha : ∀ k, 337 ≤ k → a k = jA hm k) (hT : jy_T (jy_np hc r) T a) (hL : ∀ j, j < (a 0).toNatClampNeg → T 31 j = a (37 + j))
    (k1 : K 0 4 = nI (n + 1 - s) ∧ K 0 5 = nI (n + 1 - s)) (k2 : ∀ j, j < n - s → K 48 j = jh_I hc 48 0 (j + s) ∧ K 49 j = jh_I hc 49 0 (j + s) ∧ K 50 j = jh_I hc 50 0 (j + s) ∧ K 51 j = jh_I hc 51 0 (j + s)) (k3 : K 48 (n - s) = x ∧ K 49 (n - s) = y ∧ K 50 (n - s) = z ∧ K 51 (n - s) = v)
    (f1 : F 60 = nI (n + 1 - s)) (f2 : F 61 = 0) (f3 : ∀ f, f ≠ 60 → f ≠ 61 → F f = jh_I hm 11 0 f) (f4 : ∀ q, q < 337 * (n - s) → W q = jh_I hm 103 0 (q + 337 * s)) (f5 : ∀ q, q < 337 → W (337 * (n - s) + q) = jA hm q)
    (hact : jz_act hm b x y z v (jA hm) a) (hS : jz_S (ju_I (ju_I hm 103 0 W) 11 0 F) S') :
    jz_Rel (jQ (jP (jK hc 0 T (r + 1)) S kc) K) (jS (jw_h (ju_I (ju_I hm 103 0 W) 11 0 F) a) S') := by
  have hF : ∀ f, (f < 49 ∨ 53 < f) → f ≠ 60 → f ≠ 61 → S' 11 f = jh_I hm 11 0 f := fun f h1 h2 h3 => (hS f h1).trans (f3 f h2 h3)
  have eN : jN (jS (jw_h (ju_I (ju_I hm 103 0 W) 11 0 F) a) S') = jN hm := by
    rw [jN_S, jN_u _ _ _ _ rfl, jN_u _ _ _ _ rfl, jN_u _ _ _ _ rfl]
  obtain ⟨c1, c2, c3, c4, c5, c6, c7, c8⟩ := hC
  obtain ⟨t, t1, t2, t3⟩ := hTa
  obtain ⟨q1, q2⟩ := hFa
  obtain ⟨l, l1, l2, l3, l4⟩ := hLy
  obtain ⟨i, i1, i2, i3⟩ := hTi
  obtain ⟨e, e1, e2, e3, e4⟩ := hLe
  have hn40 : n ≤ 40 := by omega
  refine ⟨b, r, ⟨⟨(hF 43 (by decide) (by decide) (by decide)).trans c1.1, c1.2.1, c1.2.2.1, hG'.1⟩, hG', c3, c4, c5, c6, ⟨rfl, hT.1, hT.2.1, hT.2.2.1, hT.2.2.2⟩, hL⟩,
    ⟨t, t1, (hF 2 (by decide) (by decide) (by decide)).trans t2, t3⟩, ⟨q1.trans (hF 4 (by decide) (by decide) (by decide)).symm, q2.trans (hF 5 (by decide) (by decide) (by decide)).symm⟩,
    ⟨l, l1, l2, (hF 65 (by decide) (by decide) (by decide)).trans l3, l4⟩, ⟨i, i1, i2, (hF 81 (by decide) (by decide) (by decide)).trans i3⟩, ⟨e, e1, e2, (hF 80 (by decide) (by decide) (by decide)).trans e3, e4⟩, ?_, ?_, hWo⟩
  · intro i hi
    obtain ⟨g1, g2⟩ := hBo i hi
    refine ⟨g1, g2.elim Or.inl (fun g => Or.inr ⟨g.1, ?_⟩)⟩
    obtain ⟨β, p1, p2, p3, p4, p5⟩ := g.2
    have h0 : ¬ i + 1 = 0 := by omega
    refine ⟨β, p1, ?_, ?_, p4, fun k hk => (p5 k hk).trans (ha k hk).symm⟩
    · rcases Nat.lt_or_ge i 1 with q | q
      · obtain rfl : i = 0 := by omega
        exact p2
      · rcases Nat.lt_or_ge i 2 with q | q
        · obtain rfl : i = 1 := by omega
          exact p2
        · obtain rfl : i = 2 := by omega
          exact p2
    · rcases Nat.lt_or_ge i 1 with q | q
      · obtain rfl : i = 0 := by omega
        exact p3
      · rcases Nat.lt_or_ge i 2 with q | q
        · obtain rfl : i = 1 := by omega
          exact p3
        · obtain rfl : i = 2 := by omega
          exact p3
  · refine ⟨n + 1 - s, 0, by omega, k1.1, k1.2, (hS 60 (by decide)).trans f1, (hS 61 (by decide)).trans f2, fun j => if j ≤ n - s then σ (j + s) else a, if_neg (by omega), ?_, fun j h1 h2 => absurd h1 (by omega), ?_, ?_, ?_⟩
    · intro j hj k hk
      have hj2 : j ≤ n - s := by omega
      show W (337 * j + k) = (if j ≤ n - s then σ (j + s) else a) k
      rw [if_pos hj2]
      rcases Nat.lt_or_ge j (n - s) with g | g
      · rw [f4 _ (by omega), show 337 * j + k + 337 * s = 337 * (j + s) + k by omega]
        exact s2 (j + s) (by omega) k hk
      · obtain rfl : j = n - s := by omega
        rw [f5 k hk, show n - s + s = n by omega, s1]
    · intro j hj
      show jz_G _ b (if j ≤ n - s then σ (j + s) else a)
      split
      · exact jz_G_t eN (s4 (j + s) (by omega))
      · exact jz_G_t eN hG'
    · intro j hj k hk
      show (if j ≤ n - s then σ (j + s) else a) k = a k
      split
      · rw [s5 (j + s) (by omega) k hk, ha k hk]
      · rfl
    · intro j hj
      refine jz_act_t eN ?_
      show jz_act hm b (K 48 j) (K 49 j) (K 50 j) (K 51 j) (if j ≤ n - s then σ (j + s) else a) (if j + 1 ≤ n - s then σ (j + 1 + s) else a)
      rcases Nat.lt_or_ge j (n - s) with g | g
      · obtain ⟨r1, r2, r3, r4⟩ := k2 j g
        rw [if_pos (by omega), if_pos (by omega), r1, r2, r3, r4, show j + 1 + s = j + s + 1 by omega]
        exact s6 (j + s) (by omega)
      · obtain rfl : j = n - s := by omega
        rw [if_pos (by omega), if_neg (by omega), k3.1, k3.2.1, k3.2.2.1, k3.2.2.2, show n - s + s = n by omega, s1]
        exact hact
