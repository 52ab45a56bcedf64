theorem jq_len_s {M : Nat → Int32} {F : Nat → jq_S → Option jq_S} (hF : ∀ l σ σ', l < 32 → F l σ = some σ' → ¬ σ'.2 = none) : ∀ m l σ σ', l + m ≤ 32 → (¬ σ.2 = none ∨ ∃ j, l ≤ j ∧ j < l + m ∧ ¬ M j = 0) → jq_len M F m l σ = some σ' → ¬ σ'.2 = none
  | 0, l, σ, σ', h, q, e => by
    rw [jq_len] at e
    injection e with e
    rw [← e]
    rcases q with q | ⟨j, q1, q2, -⟩
    · exact q
    · omega
  | m + 1, l, σ, σ', h, q, e => by
    rw [jq_len] at e
    by_cases z : M l = 0
    · rw [if_pos z] at e
      refine jq_len_s hF m (l + 1) σ σ' (by omega) ?_ e
      rcases q with q | ⟨j, q1, q2, q3⟩
      · exact Or.inl q
      · refine Or.inr ⟨j, ?_, by omega, q3⟩
        rcases Nat.eq_or_lt_of_le q1 with y | y
        · rw [y] at z; exact absurd z q3
        · exact y
    · rw [if_neg z] at e
      by_cases y : 20000 < σ.1 + 1
      · rw [if_pos y] at e; cases e
      · rw [if_neg y] at e
        cases e2 : F l (σ.1 + 1, σ.2) with
        | none => rw [e2] at e; cases e
        | some σ2 =>
          rw [e2] at e
          exact jq_len_s hF m (l + 1) σ2 σ' (by omega) (Or.inl (hF l _ _ (by omega) e2)) e
theorem jq_go_s {hm : jx_H} {b p : Nat} (hB : jz_B hm b) (hmo : ¬ jC hm b 0 0 = 0) : ∀ r dp a s row σ σ' w, jz_A (jz_np hm b) (jz_nm hm b) a → a 0 = nI w → w + r ≤ 511 → jq_go hm b p r dp a s row σ = some σ' → ¬ σ'.2 = none
  | 0, dp, a, s, row, (k, o), σ', w, hA, hw, hwr, e => by
    injection e with e
    rw [← e]
    cases o with
    | none => intro z; cases z
    | some x =>
      obtain ⟨v, R⟩ := x
      unfold jq_cmp
      dsimp only
      split <;> (intro z; cases z)
  | r + 1, dp, a, s, row, σ, σ', w, hA, hw, hwr, e => by
    obtain ⟨j, h1, h2⟩ := jw_mayb_ex (jz_Wa hB hA) hmo
    exact jq_len_s (fun l σ σ' hl h2 => by
      obtain ⟨hA1, hw1⟩ := jz_A_gb hB.2.2 hmo hA hw (by omega) (show l ≤ 31 by omega)
      exact jq_go_s hB hmo r _ _ _ _ _ _ (w + 1) hA1 hw1 (by omega) h2) 32 0 σ σ' (by omega) (Or.inr ⟨j, Nat.zero_le _, by omega, h2⟩) e
theorem jK_cu {h : jx_H} {c m a : Nat} {T : Nat → Nat → Int32} {f : Nat → Int32} (hc : c ≠ 0) : ju_I (jK h c T m) a 0 f = jK (ju_I h a 0 f) c T m := by
  unfold ju_I jK
  refine congrArg (·, _) ?_
  funext x y
  dsimp only
  by_cases e : x = a ∧ y = 0
  · rw [if_pos e, if_pos e, if_neg (fun z => hc (z.2.symm.trans e.2))]
  · rw [if_neg e, if_neg e]
theorem jq_lyC_K (hc : jx_H) (T S : Nat → Nat → Int32) (m k n : Nat) (R : Nat → Int32) : ju_I (ju_I (jP (jK hc 4 T m) S k) 10 0 (upd (jh_I (jP (jK hc 4 T m) S k) 10 0) 13 (nI n))) 63 0 R = jP (jK (jw_lyC hc n R) 4 T m) S k := by
  rw [jw_lyC_P]
  refine congrArg (fun z => jP z S k) ?_
  unfold jw_lyC
  rw [jK_cu (by decide), jK_cu (by decide)]
  rfl
set_option maxHeartbeats 800000 in
set_option maxRecDepth 100000 in
theorem ev_findPlan {d : Nat} {h : jx_H} {Q : Option jx_V → jx_H → Prop} {hm : jx_H} {b r p n w : Nat} (hw0 : jz_W hm b) (hmo : ¬ jC hm b 0 0 = 0) (hw : jA hm 0 = nI w) (hw2 : w ≤ 300) (hp : p < 5) (hn1 : 1 ≤ n) (hn4 : n ≤ 4) (hR : jy_R h r hm b) (hA0 : jy_A h 0 r (jA hm)) (k : ∀ (v : Int32) (T' S' : Nat → Nat → Int32) (kc' : Nat), (v = 0 ∧ (jq_go hm b p n 0 (jA hm) 0 (fun _ => 0) (0, none)) = none ∨ v = 1 ∧ ∃ σ', (jq_go hm b p n 0 (jA hm) 0 (fun _ => 0) (0, none)) = some σ' ∧ jq_C S' p n σ') → Q (some (jv_i v)) (jP (jK h 4 T' (r + 1)) S' kc'))  : jx_Ev jm_For_findPlan (d + 20) 0 0 false 0 [jv_r 3 0, jv_r 1 0, jv_i (nI p), jv_i (nI n)] h Q := by
  show jx_W (jm_For_findPlan, d + 20, 0, 0, false, 0, _) Q 0 0 0 [some (jv_r 3 0), some (jv_r 1 0), some (jv_i (nI p)), some (jv_i (nI n))] [] _
  have h0 := jz_nm0 hw0.2.2.1 hmo
  refine jr_aload rfl rfl ?_
  refine jr_getR rfl rfl rfl rfl (Or.inl rfl) ?_
  refine jr_aload rfl rfl ?_
  refine jr_cv1 (mc' := 0) (ms' := 0) rfl jm_Cal_copyOf_n jm_Cal_copyOf_f rfl rfl rfl rfl rfl rfl rfl (Nat.zero_le _) (Nat.zero_le _) ?_
  refine eB_copy40 hA0 hw (by omega) (fun T1 hT1 hL1 => ?_)
  refine jr_aload rfl rfl ?_
  refine jr_iload rfl rfl ?_
  refine jr_putI rfl rfl ?_
  simp only [jP_3, jP_r3]
  refine jr_aload rfl rfl ?_
  refine jr_iload rfl rfl ?_
  refine jr_ic rfl ?_
  refine jr_cs2 (mc' := 0) (ms' := 0) rfl jm_Math_min_n jm_Math_min_f rfl rfl rfl rfl rfl (Nat.zero_le _) (Nat.zero_le _) ?_
  refine ev_minN (w := n) (n := 4) rfl rfl hn4 (by decide) ?_
  refine jr_putI rfl rfl ?_
  simp only [jP_3, jP_r3]
  refine jr_aload rfl rfl ?_
  refine jr_ic rfl ?_
  refine jr_putZ rfl rfl (by first | exact Or.inl rfl | exact Or.inr rfl | assumption) ?_
  simp only [jP_3, jP_r3]
  refine jr_aload rfl rfl ?_
  refine jr_ic rfl ?_
  refine jr_putI rfl rfl ?_
  simp only [jP_3, jP_r3]
  refine jr_aload rfl rfl ?_
  refine jr_aload rfl rfl ?_
  refine jr_getM rfl rfl rfl rfl hA0.1 ?_
  refine jr_aload rfl rfl ?_
  refine jr_cv0 (mc' := 0) (ms' := 0) rfl jm_Cal_nextMonth_n jm_Cal_nextMonth_f rfl rfl rfl rfl rfl rfl rfl (Nat.zero_le _) (Nat.zero_le _) ?_
  refine ev_Cal_nextMonth (hm := hm) (b := b) (r := r) hw0 hA0 hR hmo ?_
  rw [jq_month hw0 h0 hw (by omega)]
  refine jr_cv2 (mc' := 0) (ms' := 0) rfl jm_For_isSpentAtOnce_n jm_For_isSpentAtOnce_f rfl rfl rfl rfl rfl rfl rfl (Nat.zero_le _) (Nat.zero_le _) ?_
  refine ev_spent (hm := hm) (b := b) (r := r) (w := w) (n := n) hw0 hR h0 rfl hn4 (by omega) (fun v1 hv1 => ?_)
  refine jr_if_ne rfl (fun c24 => ?_) (fun c24 => ?_)
  · refine jr_ic rfl ?_
    refine jr_zret rfl rfl rfl (Nat.zero_le _) (Nat.zero_le _) ?_
    rcases hv1 with z | ⟨-, z1, z2⟩
    · exact absurd z c24
    · exact k 0 _ _ _ (Or.inl ⟨rfl, jq_T_none (jz_W_B hw0) hmo h0 z1 hw0.2.2.2 hw (by omega) z2⟩)
  · refine jr_aload rfl rfl ?_
    refine jr_ic rfl ?_
    refine jr_ic rfl ?_
    refine jr_cv2 (mc' := 0) (ms' := 0) rfl jm_For_lookOn_n jm_For_lookOn_f rfl rfl rfl rfl rfl rfl rfl (Nat.zero_le _) (Nat.zero_le _) ?_
    obtain ⟨u, hu⟩ : ∃ u, n = u + 1 := ⟨n - 1, by omega⟩
    rw [show d + 19 = (d + (13 - 2 * (u + 1))) + 2 * (u + 1) + 6 by omega]
    refine jq_look (h := h) (hm := hm) (b := b) (r := r) (p := p) (n := n) (jz_W_B hw0) hmo hR hp hn4 u _ 0 w _ (jA hm) 0 (fun _ => 0) _ _ (0, none) _ hw0.2.2.2 hw (by omega) (by omega) hT1 ⟨rfl, rfl, rfl, by decide, Or.inl ⟨rfl, rfl⟩⟩ (fun j hj => absurd hj (by omega)) (fun v T2 S2 kc2 t1 t2 t3 => ?_)
    rw [← hu] at t3
    refine jr_if_eq rfl (fun c29 => ?_) (fun c29 => ?_)
    · refine jr_ic rfl ?_
      refine jr_zret rfl rfl rfl (Nat.zero_le _) (Nat.zero_le _) ?_
      refine k 0 _ _ _ (Or.inl ⟨rfl, ?_⟩)
      rcases t3 with ⟨-, z⟩ | ⟨z, -⟩
      · exact z
      · exact absurd (z.symm.trans c29) (by decide)
    · refine jr_ic rfl ?_
      refine jr_goto rfl ?_
      refine jr_zret rfl rfl rfl (Nat.zero_le _) (Nat.zero_le _) ?_
      refine k 1 _ _ _ (Or.inr ⟨rfl, ?_⟩)
      rcases t3 with ⟨z, -⟩ | ⟨-, σ', z1, z2, -⟩
      · exact absurd z c29
      · exact ⟨σ', z1, z2⟩

set_option maxHeartbeats 800000 in
set_option maxRecDepth 100000 in
theorem lp_lay2 {d n0 : Nat} {Q : Option jx_V → jx_H → Prop} {hm : jx_H} {p n : Nat} {k3 best som pl : Int32} {S : Nat → Nat → Int32} (R : Nat → Int32) (j : Nat) (hn : n ≤ 4) (hj : j ≤ n) (h1 : ∀ q, q < j → R q = S 108 q) (kk : ∀ (R' : Nat → Int32) (x7 : Option jx_V), (∀ q, q < n → R' q = S 108 q) → jx_W (jm_MD_plan, d + 10, 0, 0, false, 1, n0) Q 0 0 173 [some (jv_r 11 0), some (jv_i (nI p)), some (jv_i (nI n)), some (jv_i k3), some (jv_i best), some (jv_i som), some (jv_i pl), x7] [] (ju_I (jS hm S) 106 0 R'))  : jx_W (jm_MD_plan, d + 10, 0, 0, false, 1, n0) Q 0 0 160 [some (jv_r 11 0), some (jv_i (nI p)), some (jv_i (nI n)), some (jv_i k3), some (jv_i best), some (jv_i som), some (jv_i pl), some (jv_i (nI j))] [] (ju_I (jS hm S) 106 0 R) := by
  refine jr_iload rfl rfl ?_
  refine jr_iload rfl rfl ?_
  refine jr_icmp_ge rfl (fun c162 => ?_) (fun c162 => ?_)
  · have hj2 : j = n := by have := jn_le (show nI n ≤ nI j from c162) (by omega) (by omega); omega
    subst hj2
    exact kk R _ h1
  · have hj1 : j < n := jn_nle (show ¬ nI n ≤ nI j from c162) (by omega) (by omega)
    refine jr_aload rfl rfl ?_
    refine jr_getR rfl rfl rfl rfl (Or.inl rfl) ?_
    refine jr_iload rfl rfl ?_
    refine jr_aload rfl rfl ?_
    refine jr_getR rfl rfl rfl rfl (Or.inl rfl) ?_
    refine jr_iload rfl rfl ?_
    refine jr_iald (len := 4) rfl rfl rfl (by omega) ?_
    refine jr_iast (len := 8) rfl rfl rfl (by omega) ?_
    rw [jg_II, jg_uu]
    refine jr_iinc7 rfl rfl ?_
    refine jr_goto rfl ?_
    rw [jn_S]
    refine lp_lay2 _ (j + 1) hn (by omega) (fun q hq => ?_) kk
    show upd R j (S 108 j) q = _
    by_cases e : q = j
    · rw [e, jg_us]
    · rw [jg_un e]; exact h1 q (by omega)
termination_by n - j
decreasing_by all_goals omega

set_option maxHeartbeats 800000 in
set_option maxRecDepth 100000 in
theorem lp_plan17 {d n0 : Nat} {Q : Option jx_V → jx_H → Prop} {hm : jx_H} {b p n w : Nat} {S : Nat → Nat → Int32} (hw0 : jz_W hm b) (hmo : ¬ jC hm b 0 0 = 0) (hw : jA hm 0 = nI w) (hw2 : w ≤ 300) (hp : p < 5) (hn1 : 1 ≤ n) (hn4 : n ≤ 4) (hS : jz_S hm S) (k0 : (jq_go hm b p n 0 (jA hm) 0 (fun _ => 0) (0, none)) = none → ∀ S' : Nat → Nat → Int32, jz_S hm S' → Q (some (jv_i (-1000001))) (jS hm S')) (k1 : ∀ (σ' : jq_S) (v : Int32) (R R' : Nat → Int32) (S' : Nat → Nat → Int32), (jq_go hm b p n 0 (jA hm) 0 (fun _ => 0) (0, none)) = some σ' → σ'.2 = some (v, R) → (∀ j, j < n → R' j = R j) → jz_S (jw_lyM hm n R') S' → Q (some (jv_i v)) (jS (jw_lyM hm n R') S'))  : jx_W (jm_MD_plan, d + 10, 0, 0, false, 1, n0) Q 0 0 17 [some (jv_r 11 0), some (jv_i (nI p)), some (jv_i (nI n)), none, none, none, none, none] [] (jS hm S) := by
  refine jr_ic rfl ?_
  refine jr_ist3 rfl rfl ?_
  refine jr_ic rfl ?_
  refine jr_ist4 rfl rfl ?_
  refine jr_ic rfl ?_
  refine jr_ist5 rfl rfl ?_
  refine jr_ic rfl ?_
  refine jr_ist6 rfl rfl ?_
  refine jr_aload rfl rfl ?_
  refine jr_getR rfl rfl rfl rfl (Or.inl rfl) ?_
  refine jr_ic rfl ?_
  refine jr_ic rfl ?_
  refine jr_iast (len := 5) rfl rfl (show _ = nI 0 from rfl) (by decide) ?_
  simp only [jS_109, jS_r109]
  refine jr_aload rfl rfl ?_
  refine jr_ic rfl ?_
  refine jr_cv1 (mc' := 0) (ms' := 0) rfl jm_MD_keepPlace_n jm_MD_keepPlace_f rfl rfl rfl rfl rfl rfl rfl (Nat.zero_le _) (Nat.zero_le _) ?_
  rw [show (0 : Int32) = nI 0 from rfl]
  refine eS_keepPl (b := b) (dp := 0) hw0 hmo (by decide) (fun f hf => hS f hf) (fun S2 hS2 kf k2 k3 k4 k5 k6 k7 => ?_)
  rw [show jS hm S2 = jS (ju_I hm 98 0 (jA hm)) S2 from by rw [show ju_I hm 98 0 (jA hm) = hm from jg_self _ _ _]]
  refine lp_pl33 (dp := 0) (k := 0) (a := jA hm) (a2 := jA hm) _ (by decide) k2 (fun _ _ => rfl) ?_
  obtain ⟨u, hu⟩ : ∃ u, n = u + 1 := ⟨n - 1, by omega⟩
  refine jq_pl (hm := hm) (b := b) (p := p) (n := n) (jz_W_B hw0) hmo hp hn4 u 0 w 0 (jA hm) 0 _ _ (fun _ => 0) _ _ (0, none) _ hw0.2.2.2 hw (by omega) (by omega) (fun _ _ => rfl) (fun f hf => hS2 f hf) ⟨rfl, by decide, Or.inl ⟨rfl, rfl⟩⟩ ?_ (fun j hj => absurd hj (by omega)) ?_ (fun q hq => k2 q hq) (fun q hq => ?_) (fun q hq => k4 q hq) (fun _ _ => rfl) (fun _ _ => rfl) (fun _ _ => rfl) (fun z => k0 (by rw [← hu] at z; exact z)) (fun σ3 S3 k3' best3 som3 x3 q1 q2 q3 q4 q5 q6 q7 q8 => ?_)
  · show upd (S2 107) 0 (S2 107 0 + 1) 0 = nI 0
    rw [jg_us, k6]; decide
  · show S2 109 0 = 0
    rw [kf 109 (by decide) (by decide) (by decide) (by decide) (by decide) (by decide)]
    show upd (S 109) 0 0 0 = 0
    exact jg_us _ _ _
  · have := k2 q hq
    rw [Nat.mul_zero, Nat.zero_add] at this
    exact this
  · rw [← hu] at q1
    refine jr_iload rfl rfl ?_
    refine jr_if_lt rfl (fun _ => ?_) (fun z => absurd (show nI 0 + (-1) < 0 by decide) z)
    refine jr_aload rfl rfl ?_
    refine jr_ic rfl ?_
    refine jr_cv1 (mc' := 0) (ms' := 0) rfl jm_MD_bringPlace_n jm_MD_bringPlace_f rfl rfl rfl rfl rfl rfl rfl (Nat.zero_le _) (Nat.zero_le _) ?_
    rw [show (0 : Int32) = nI 0 from rfl]
    refine eS_bringPl (a := jA hm) (a2 := jA hm) (by decide) (fun q hq => by rw [Nat.mul_zero, Nat.zero_add]; exact q5 q hq) (fun _ _ => rfl) ?_
    rw [show ju_I hm 98 0 (jA hm) = hm from jg_self _ _ _, ← jw_ju0 (jS hm S3) 106 0]
    refine jr_ic rfl ?_
    refine jr_ist7 rfl rfl ?_
    refine lp_lay2 (S := S3) _ 0 hn4 (Nat.zero_le _) (fun q hq => absurd hq (by omega)) (fun R' x9 hR' => ?_)
    refine jr_aload rfl rfl ?_
    refine jr_iload rfl rfl ?_
    refine jr_putI rfl rfl ?_
    rw [show jh_I (ju_I (jS hm S3) 106 0 R') 11 0 = S3 11 from rfl, jw_lay_S hm S3 R' (upd (jh_I hm 11 0) 65 (nI n)) (upd (S3 11) 65 (nI n))]
    refine jr_iload rfl rfl ?_
    refine jr_iret rfl rfl (Nat.zero_le _) (Nat.zero_le _) ?_
    rcases q3 with ⟨-, -, ⟨z, -⟩ | ⟨v, R, z1, -, z2, z3⟩⟩
    · exact absurd z (jq_go_s (jz_W_B hw0) hmo n 0 (jA hm) 0 _ _ _ w hw0.2.2.2 hw (by omega) q1)
    · rw [z2]
      exact k1 σ3 v R R' _ q1 z1 (fun j hj => (hR' j hj).trans (z3 j hj)) (jw_lyM_S (n := n) (R := R') q2)

