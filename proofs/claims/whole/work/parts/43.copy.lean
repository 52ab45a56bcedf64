theorem ev_minN {d : Nat} {h : jx_H} {Q : Option jx_V → jx_H → Prop} {x y : Int32} {w n : Nat} {sd : Nat} {al : Bool} (hx : x = nI w) (hy : y = nI n) (hw : w ≤ n) (hn : n < 2 ^ 31) (hQ : Q (some (jv_i (nI w))) h) : jx_Ev jm_Math_min d 0 0 al sd [jv_i x, jv_i y] h Q := by
  subst hx
  subst hy
  refine ev_Math_min ?_
  rw [if_pos (nI_le hw hn)]
  exact hQ
theorem ev_maxN {d : Nat} {h : jx_H} {Q : Option jx_V → jx_H → Prop} {x y : Int32} {w n : Nat} {sd : Nat} {al : Bool} (hx : x = nI w) (hy : y = nI n) (hw : n < 2 ^ 31 ∧ w < 2 ^ 31) (hQ : Q (some (jv_i (nI (max w n)))) h) : jx_Ev jm_Math_max d 0 0 al sd [jv_i x, jv_i y] h Q := by
  subst hx
  subst hy
  refine ev_Math_max ?_
  by_cases e : n ≤ w
  · rw [if_pos (nI_le e hw.2)]
    rw [Nat.max_eq_left e] at hQ
    exact hQ
  · rw [if_neg (nI_ge (by omega) hw.1)]
    rw [Nat.max_eq_right (by omega)] at hQ
    exact hQ
theorem jPK_r1_1 (h : jx_H) (T S : Nat → Nat → Int32) (m k : Nat) : jh_I (jP (jK h 1 T m) S k) 1 1 = T 1 := rfl
theorem jPK_r31_1 (h : jx_H) (T S : Nat → Nat → Int32) (m k : Nat) : jh_I (jP (jK h 1 T m) S k) 31 1 = T 31 := rfl
theorem jPK_r32_1 (h : jx_H) (T S : Nat → Nat → Int32) (m k : Nat) : jh_I (jP (jK h 1 T m) S k) 32 1 = T 32 := rfl
theorem jPK_r33_1 (h : jx_H) (T S : Nat → Nat → Int32) (m k : Nat) : jh_I (jP (jK h 1 T m) S k) 33 1 = T 33 := rfl
theorem jPK_r34_1 (h : jx_H) (T S : Nat → Nat → Int32) (m k : Nat) : jh_I (jP (jK h 1 T m) S k) 34 1 = T 34 := rfl
theorem jPK_r35_1 (h : jx_H) (T S : Nat → Nat → Int32) (m k : Nat) : jh_I (jP (jK h 1 T m) S k) 35 1 = T 35 := rfl
theorem jPK_r36_1 (h : jx_H) (T S : Nat → Nat → Int32) (m k : Nat) : jh_I (jP (jK h 1 T m) S k) 36 1 = T 36 := rfl
theorem jPK_r1_2 (h : jx_H) (T S : Nat → Nat → Int32) (m k : Nat) : jh_I (jP (jK h 2 T m) S k) 1 2 = T 1 := rfl
theorem jPK_r31_2 (h : jx_H) (T S : Nat → Nat → Int32) (m k : Nat) : jh_I (jP (jK h 2 T m) S k) 31 2 = T 31 := rfl
theorem jPK_r32_2 (h : jx_H) (T S : Nat → Nat → Int32) (m k : Nat) : jh_I (jP (jK h 2 T m) S k) 32 2 = T 32 := rfl
theorem jPK_r33_2 (h : jx_H) (T S : Nat → Nat → Int32) (m k : Nat) : jh_I (jP (jK h 2 T m) S k) 33 2 = T 33 := rfl
theorem jPK_r34_2 (h : jx_H) (T S : Nat → Nat → Int32) (m k : Nat) : jh_I (jP (jK h 2 T m) S k) 34 2 = T 34 := rfl
theorem jPK_r35_2 (h : jx_H) (T S : Nat → Nat → Int32) (m k : Nat) : jh_I (jP (jK h 2 T m) S k) 35 2 = T 35 := rfl
theorem jPK_r36_2 (h : jx_H) (T S : Nat → Nat → Int32) (m k : Nat) : jh_I (jP (jK h 2 T m) S k) 36 2 = T 36 := rfl
theorem jPK_r1_3 (h : jx_H) (T S : Nat → Nat → Int32) (m k : Nat) : jh_I (jP (jK h 3 T m) S k) 1 3 = T 1 := rfl
theorem jPK_r31_3 (h : jx_H) (T S : Nat → Nat → Int32) (m k : Nat) : jh_I (jP (jK h 3 T m) S k) 31 3 = T 31 := rfl
theorem jPK_r32_3 (h : jx_H) (T S : Nat → Nat → Int32) (m k : Nat) : jh_I (jP (jK h 3 T m) S k) 32 3 = T 32 := rfl
theorem jPK_r33_3 (h : jx_H) (T S : Nat → Nat → Int32) (m k : Nat) : jh_I (jP (jK h 3 T m) S k) 33 3 = T 33 := rfl
theorem jPK_r34_3 (h : jx_H) (T S : Nat → Nat → Int32) (m k : Nat) : jh_I (jP (jK h 3 T m) S k) 34 3 = T 34 := rfl
theorem jPK_r35_3 (h : jx_H) (T S : Nat → Nat → Int32) (m k : Nat) : jh_I (jP (jK h 3 T m) S k) 35 3 = T 35 := rfl
theorem jPK_r36_3 (h : jx_H) (T S : Nat → Nat → Int32) (m k : Nat) : jh_I (jP (jK h 3 T m) S k) 36 3 = T 36 := rfl
set_option maxHeartbeats 800000 in
set_option maxRecDepth 100000 in
theorem lp_copy40 {d n0 : Nat} {Q : Option jx_V → jx_H → Prop} {h : jx_H} {r m kc w : Nat} {a : jw_A} {S : Nat → Nat → Int32} (T : Nat → Nat → Int32) (j : Nat) (hA : jy_A h 0 r a) (hj : j ≤ 12) (t1 : T 1 2 = a 0 ∧ T 1 3 = a 1) (t2 : ∀ p, p < 5 → T 32 p = a (2 + p) ∧ (p < jy_np h r → T 33 p = a (7 + p))) (t3 : ∀ d, d < 12 → T 34 d = a (12 + d) ∧ T 35 d = a (24 + d)) (t4 : ∀ d, d < j → T 36 d = (a 36 >>> (nI d &&& 31)) &&& 1) (t5 : ∀ j, j < w → T 31 j = jh_I h 31 0 j) (k : ∀ T' : Nat → Nat → Int32, jy_T (jy_np h r) T' a → (∀ j, j < w → T' 31 j = jh_I h 31 0 j) → Q none (jP (jK h 4 T' m) S kc))  : jx_W (jm_Cal_copyOf, d + 2, 0, 0, false, 0, n0) Q 0 0 57 [some (jv_r 1 4), some (jv_r 1 0), some (jv_i (nI j))] [] (jP (jK h 4 T m) S kc) := by
  refine jr_iload rfl rfl ?_
  refine jr_ic rfl ?_
  refine jr_icmp_ge rfl (fun c59 => ?_) (fun c59 => ?_)
  · refine jr_vret rfl rfl (Nat.zero_le _) (Nat.zero_le _) ?_
    have hx1 : 12 ≤ j := jn_le (show nI 12 ≤ nI j from c59) (by omega) (by omega)
    exact k T ⟨t1.1, t1.2, t2, fun d hd => ⟨(t3 d hd).1, (t3 d hd).2, t4 d (by omega)⟩⟩ t5
  · have hl1 : j < 12 := jn_nle (show ¬ nI 12 ≤ nI j from c59) (by omega) (by omega)
    refine jr_aload rfl rfl ?_
    refine jr_getR rfl rfl rfl rfl (Or.inl rfl) ?_
    refine jr_iload rfl rfl ?_
    refine jr_aload rfl rfl ?_
    refine jr_getR rfl rfl rfl rfl (Or.inl rfl) ?_
    refine jr_iload rfl rfl ?_
    refine jr_zald (len := 12) rfl rfl rfl (by omega) ?_
    refine jr_zast (len := 12) rfl rfl rfl (by omega) ?_
    refine jr_iinc2 rfl rfl ?_
    refine jr_goto rfl ?_
    simp only [jPK_36, jPK_r36_4]
    rw [jn_S]
    refine lp_copy40 _ (j + 1) hA (by omega) t1 t2 t3 (fun d hd => ?_) t5 k
    show upd (T 36) j (jh_I h 36 0 j &&& 1) d = _
    by_cases e : d = j
    · rw [e, jg_us, (hA.2.2.2.2 j hl1).2.2]
      rw [jy_s_bt (by omega)]
      split <;> rfl
    · rw [jg_un e]; exact t4 d (by omega)
termination_by 12 - j
decreasing_by all_goals omega

set_option maxHeartbeats 800000 in
set_option maxRecDepth 100000 in
theorem ev_copy40 {d : Nat} {h : jx_H} {Q : Option jx_V → jx_H → Prop} {r m kc w : Nat} {a : jw_A} {S T : Nat → Nat → Int32} (hA : jy_A h 0 r a) (hw0 : a 0 = nI w) (hw : w ≤ 511) (k : ∀ T' : Nat → Nat → Int32, jy_T (jy_np h r) T' a → (∀ j, j < w → T' 31 j = jh_I h 31 0 j) → Q none (jP (jK h 4 T' (r + 1)) S kc))  : jx_Ev jm_Cal_copyOf (d + 2) 0 0 false 0 [jv_r 1 4, jv_r 1 0] (jP (jK h 4 T m) S kc) Q := by
  show jx_W (jm_Cal_copyOf, d + 2, 0, 0, false, 0, _) Q 0 0 0 [some (jv_r 1 4), some (jv_r 1 0), none] [] _
  refine jr_aload rfl rfl ?_
  refine jr_aload rfl rfl ?_
  refine jr_getM rfl rfl rfl rfl hA.1 ?_
  refine jr_putM rfl rfl rfl rfl ?_
  rw [jPK_M]
  refine jr_aload rfl rfl ?_
  refine jr_aload rfl rfl ?_
  refine jr_getI rfl rfl ?_
  refine jr_putI rfl rfl ?_
  simp only [jPK_1, jPK_r1_4]
  rw [show jh_I (jP (jK h 4 T (r + 1)) S kc) 1 0 2 = nI w from hA.2.1.trans hw0]
  refine jr_aload rfl rfl ?_
  refine jr_aload rfl rfl ?_
  refine jr_getI rfl rfl ?_
  rw [show jh_I (jP (jK h 4 (fun x => if x = 1 then upd (T 1) 2 (nI w) else T x) (r + 1)) S kc) 1 0 3 = a 1 from hA.2.2.1]
  refine jr_putI rfl rfl ?_
  simp only [jPK_1, jPK_r1_4]
  refine jr_aload rfl rfl ?_
  refine jr_getR rfl rfl rfl rfl (Or.inl rfl) ?_
  refine jr_ic rfl ?_
  refine jr_aload rfl rfl ?_
  refine jr_getR rfl rfl rfl rfl (Or.inl rfl) ?_
  refine jr_ic rfl ?_
  refine jr_aload rfl rfl ?_
  refine jr_getI rfl rfl ?_
  skip
  refine jr_ic rfl ?_
  refine jr_cs2 (mc' := 0) (ms' := 0) rfl jm_Math_min_n jm_Math_min_f rfl rfl rfl rfl rfl (Nat.zero_le _) (Nat.zero_le _) ?_
  refine ev_minN (w := w) (n := 512) rfl rfl (by omega) (by decide) ?_
  refine jr_copy (len0 := 512) (len := 512) (sp := 0) (dp := 0) (m := w) rfl rfl rfl (Nat.succ_le_succ (Nat.zero_le _)) rfl rfl rfl rfl rfl (by omega) (by omega) ?_
  simp only [jPK_31, jPK_r31_4]
  refine jr_aload rfl rfl ?_
  refine jr_getR rfl rfl rfl rfl (Or.inl rfl) ?_
  refine jr_ic rfl ?_
  refine jr_aload rfl rfl ?_
  refine jr_getR rfl rfl rfl rfl (Or.inl rfl) ?_
  refine jr_ic rfl ?_
  refine jr_ic rfl ?_
  refine jr_copy (len0 := 5) (len := 5) (sp := 0) (dp := 0) (m := 5) rfl rfl rfl (Nat.succ_le_succ (Nat.zero_le _)) rfl rfl rfl rfl rfl (by decide) (by decide) ?_
  simp only [jPK_32, jPK_r32_4]
  refine jr_aload rfl rfl ?_
  refine jr_getR rfl rfl rfl rfl (Or.inl rfl) ?_
  refine jr_ic rfl ?_
  refine jr_aload rfl rfl ?_
  refine jr_getR rfl rfl rfl rfl (Or.inl rfl) ?_
  refine jr_ic rfl ?_
  refine jr_ic rfl ?_
  refine jr_copy (len0 := 5) (len := 5) (sp := 0) (dp := 0) (m := 5) rfl rfl rfl (Nat.succ_le_succ (Nat.zero_le _)) rfl rfl rfl rfl rfl (by decide) (by decide) ?_
  simp only [jPK_33, jPK_r33_4]
  refine jr_aload rfl rfl ?_
  refine jr_getR rfl rfl rfl rfl (Or.inl rfl) ?_
  refine jr_ic rfl ?_
  refine jr_aload rfl rfl ?_
  refine jr_getR rfl rfl rfl rfl (Or.inl rfl) ?_
  refine jr_ic rfl ?_
  refine jr_ic rfl ?_
  refine jr_copy (len0 := 12) (len := 12) (sp := 0) (dp := 0) (m := 12) rfl rfl rfl (Nat.succ_le_succ (Nat.zero_le _)) rfl rfl rfl rfl rfl (by decide) (by decide) ?_
  simp only [jPK_34, jPK_r34_4]
  refine jr_aload rfl rfl ?_
  refine jr_getR rfl rfl rfl rfl (Or.inl rfl) ?_
  refine jr_ic rfl ?_
  refine jr_aload rfl rfl ?_
  refine jr_getR rfl rfl rfl rfl (Or.inl rfl) ?_
  refine jr_ic rfl ?_
  refine jr_ic rfl ?_
  refine jr_copy (len0 := 12) (len := 12) (sp := 0) (dp := 0) (m := 12) rfl rfl rfl (Nat.succ_le_succ (Nat.zero_le _)) rfl rfl rfl rfl rfl (by decide) (by decide) ?_
  simp only [jPK_35, jPK_r35_4]
  refine jr_ic rfl ?_
  refine jr_ist2 rfl rfl ?_
  refine lp_copy40 (w := w) _ 0 hA (by omega) ⟨hw0.symm, rfl⟩ (fun p hp => ⟨(sb_cpy0 hp).trans (hA.2.2.2.1 p hp).1, fun q => (sb_cpy0 hp).trans ((hA.2.2.2.1 p hp).2 q)⟩) (fun d hd => ⟨(sb_cpy0 hd).trans (hA.2.2.2.2 d hd).1, (sb_cpy0 hd).trans (hA.2.2.2.2 d hd).2.1⟩) (fun d hd => absurd hd (by omega)) (fun j hj => sb_cpy0 hj) k

set_option maxHeartbeats 800000 in
set_option maxRecDepth 100000 in
theorem lp_copy10 {d n0 : Nat} {Q : Option jx_V → jx_H → Prop} {h : jx_H} {r m kc w : Nat} {a : jw_A} {S : Nat → Nat → Int32} (T : Nat → Nat → Int32) (j : Nat) (hA : jy_A h 0 r a) (hj : j ≤ 12) (t1 : T 1 2 = a 0 ∧ T 1 3 = a 1) (t2 : ∀ p, p < 5 → T 32 p = a (2 + p) ∧ (p < jy_np h r → T 33 p = a (7 + p))) (t3 : ∀ d, d < 12 → T 34 d = a (12 + d) ∧ T 35 d = a (24 + d)) (t4 : ∀ d, d < j → T 36 d = (a 36 >>> (nI d &&& 31)) &&& 1) (t5 : ∀ j, j < w → T 31 j = jh_I h 31 0 j) (k : ∀ T' : Nat → Nat → Int32, jy_T (jy_np h r) T' a → (∀ j, j < w → T' 31 j = jh_I h 31 0 j) → Q none (jP (jK h 1 T' m) S kc))  : jx_W (jm_Cal_copyOf, d + 2, 0, 0, false, 0, n0) Q 0 0 57 [some (jv_r 1 1), some (jv_r 1 0), some (jv_i (nI j))] [] (jP (jK h 1 T m) S kc) := by
  refine jr_iload rfl rfl ?_
  refine jr_ic rfl ?_
  refine jr_icmp_ge rfl (fun c59 => ?_) (fun c59 => ?_)
  · refine jr_vret rfl rfl (Nat.zero_le _) (Nat.zero_le _) ?_
    have hx1 : 12 ≤ j := jn_le (show nI 12 ≤ nI j from c59) (by omega) (by omega)
    exact k T ⟨t1.1, t1.2, t2, fun d hd => ⟨(t3 d hd).1, (t3 d hd).2, t4 d (by omega)⟩⟩ t5
  · have hl1 : j < 12 := jn_nle (show ¬ nI 12 ≤ nI j from c59) (by omega) (by omega)
    refine jr_aload rfl rfl ?_
    refine jr_getR rfl rfl rfl rfl (Or.inl rfl) ?_
    refine jr_iload rfl rfl ?_
    refine jr_aload rfl rfl ?_
    refine jr_getR rfl rfl rfl rfl (Or.inl rfl) ?_
    refine jr_iload rfl rfl ?_
    refine jr_zald (len := 12) rfl rfl rfl (by omega) ?_
    refine jr_zast (len := 12) rfl rfl rfl (by omega) ?_
    refine jr_iinc2 rfl rfl ?_
    refine jr_goto rfl ?_
    simp only [jPK_36, jPK_r36_1]
    rw [jn_S]
    refine lp_copy10 _ (j + 1) hA (by omega) t1 t2 t3 (fun d hd => ?_) t5 k
    show upd (T 36) j (jh_I h 36 0 j &&& 1) d = _
    by_cases e : d = j
    · rw [e, jg_us, (hA.2.2.2.2 j hl1).2.2]
      rw [jy_s_bt (by omega)]
      split <;> rfl
    · rw [jg_un e]; exact t4 d (by omega)
termination_by 12 - j
decreasing_by all_goals omega

set_option maxHeartbeats 800000 in
set_option maxRecDepth 100000 in
theorem ev_copy10 {d : Nat} {h : jx_H} {Q : Option jx_V → jx_H → Prop} {r m kc w : Nat} {a : jw_A} {S T : Nat → Nat → Int32} (hA : jy_A h 0 r a) (hw0 : a 0 = nI w) (hw : w ≤ 511) (k : ∀ T' : Nat → Nat → Int32, jy_T (jy_np h r) T' a → (∀ j, j < w → T' 31 j = jh_I h 31 0 j) → Q none (jP (jK h 1 T' (r + 1)) S kc))  : jx_Ev jm_Cal_copyOf (d + 2) 0 0 false 0 [jv_r 1 1, jv_r 1 0] (jP (jK h 1 T m) S kc) Q := by
  show jx_W (jm_Cal_copyOf, d + 2, 0, 0, false, 0, _) Q 0 0 0 [some (jv_r 1 1), some (jv_r 1 0), none] [] _
  refine jr_aload rfl rfl ?_
  refine jr_aload rfl rfl ?_
  refine jr_getM rfl rfl rfl rfl hA.1 ?_
  refine jr_putM rfl rfl rfl rfl ?_
  rw [jPK_M]
  refine jr_aload rfl rfl ?_
  refine jr_aload rfl rfl ?_
  refine jr_getI rfl rfl ?_
  refine jr_putI rfl rfl ?_
  simp only [jPK_1, jPK_r1_1]
  rw [show jh_I (jP (jK h 1 T (r + 1)) S kc) 1 0 2 = nI w from hA.2.1.trans hw0]
  refine jr_aload rfl rfl ?_
  refine jr_aload rfl rfl ?_
  refine jr_getI rfl rfl ?_
  rw [show jh_I (jP (jK h 1 (fun x => if x = 1 then upd (T 1) 2 (nI w) else T x) (r + 1)) S kc) 1 0 3 = a 1 from hA.2.2.1]
  refine jr_putI rfl rfl ?_
  simp only [jPK_1, jPK_r1_1]
  refine jr_aload rfl rfl ?_
  refine jr_getR rfl rfl rfl rfl (Or.inl rfl) ?_
  refine jr_ic rfl ?_
  refine jr_aload rfl rfl ?_
  refine jr_getR rfl rfl rfl rfl (Or.inl rfl) ?_
  refine jr_ic rfl ?_
  refine jr_aload rfl rfl ?_
  refine jr_getI rfl rfl ?_
  skip
  refine jr_ic rfl ?_
  refine jr_cs2 (mc' := 0) (ms' := 0) rfl jm_Math_min_n jm_Math_min_f rfl rfl rfl rfl rfl (Nat.zero_le _) (Nat.zero_le _) ?_
  refine ev_minN (w := w) (n := 512) rfl rfl (by omega) (by decide) ?_
  refine jr_copy (len0 := 512) (len := 512) (sp := 0) (dp := 0) (m := w) rfl rfl rfl (Nat.succ_le_succ (Nat.zero_le _)) rfl rfl rfl rfl rfl (by omega) (by omega) ?_
  simp only [jPK_31, jPK_r31_1]
  refine jr_aload rfl rfl ?_
  refine jr_getR rfl rfl rfl rfl (Or.inl rfl) ?_
  refine jr_ic rfl ?_
  refine jr_aload rfl rfl ?_
  refine jr_getR rfl rfl rfl rfl (Or.inl rfl) ?_
  refine jr_ic rfl ?_
  refine jr_ic rfl ?_
  refine jr_copy (len0 := 5) (len := 5) (sp := 0) (dp := 0) (m := 5) rfl rfl rfl (Nat.succ_le_succ (Nat.zero_le _)) rfl rfl rfl rfl rfl (by decide) (by decide) ?_
  simp only [jPK_32, jPK_r32_1]
  refine jr_aload rfl rfl ?_
  refine jr_getR rfl rfl rfl rfl (Or.inl rfl) ?_
  refine jr_ic rfl ?_
  refine jr_aload rfl rfl ?_
  refine jr_getR rfl rfl rfl rfl (Or.inl rfl) ?_
  refine jr_ic rfl ?_
  refine jr_ic rfl ?_
  refine jr_copy (len0 := 5) (len := 5) (sp := 0) (dp := 0) (m := 5) rfl rfl rfl (Nat.succ_le_succ (Nat.zero_le _)) rfl rfl rfl rfl rfl (by decide) (by decide) ?_
  simp only [jPK_33, jPK_r33_1]
  refine jr_aload rfl rfl ?_
  refine jr_getR rfl rfl rfl rfl (Or.inl rfl) ?_
  refine jr_ic rfl ?_
  refine jr_aload rfl rfl ?_
  refine jr_getR rfl rfl rfl rfl (Or.inl rfl) ?_
  refine jr_ic rfl ?_
  refine jr_ic rfl ?_
  refine jr_copy (len0 := 12) (len := 12) (sp := 0) (dp := 0) (m := 12) rfl rfl rfl (Nat.succ_le_succ (Nat.zero_le _)) rfl rfl rfl rfl rfl (by decide) (by decide) ?_
  simp only [jPK_34, jPK_r34_1]
  refine jr_aload rfl rfl ?_
  refine jr_getR rfl rfl rfl rfl (Or.inl rfl) ?_
  refine jr_ic rfl ?_
  refine jr_aload rfl rfl ?_
  refine jr_getR rfl rfl rfl rfl (Or.inl rfl) ?_
  refine jr_ic rfl ?_
  refine jr_ic rfl ?_
  refine jr_copy (len0 := 12) (len := 12) (sp := 0) (dp := 0) (m := 12) rfl rfl rfl (Nat.succ_le_succ (Nat.zero_le _)) rfl rfl rfl rfl rfl (by decide) (by decide) ?_
  simp only [jPK_35, jPK_r35_1]
  refine jr_ic rfl ?_
  refine jr_ist2 rfl rfl ?_
  refine lp_copy10 (w := w) _ 0 hA (by omega) ⟨hw0.symm, rfl⟩ (fun p hp => ⟨(sb_cpy0 hp).trans (hA.2.2.2.1 p hp).1, fun q => (sb_cpy0 hp).trans ((hA.2.2.2.1 p hp).2 q)⟩) (fun d hd => ⟨(sb_cpy0 hd).trans (hA.2.2.2.2 d hd).1, (sb_cpy0 hd).trans (hA.2.2.2.2 d hd).2.1⟩) (fun d hd => absurd hd (by omega)) (fun j hj => sb_cpy0 hj) k

set_option maxHeartbeats 800000 in
set_option maxRecDepth 100000 in
theorem lp_copy20 {d n0 : Nat} {Q : Option jx_V → jx_H → Prop} {h : jx_H} {r m kc w : Nat} {a : jw_A} {S : Nat → Nat → Int32} (T : Nat → Nat → Int32) (j : Nat) (hA : jy_A h 0 r a) (hj : j ≤ 12) (t1 : T 1 2 = a 0 ∧ T 1 3 = a 1) (t2 : ∀ p, p < 5 → T 32 p = a (2 + p) ∧ (p < jy_np h r → T 33 p = a (7 + p))) (t3 : ∀ d, d < 12 → T 34 d = a (12 + d) ∧ T 35 d = a (24 + d)) (t4 : ∀ d, d < j → T 36 d = (a 36 >>> (nI d &&& 31)) &&& 1) (t5 : ∀ j, j < w → T 31 j = jh_I h 31 0 j) (k : ∀ T' : Nat → Nat → Int32, jy_T (jy_np h r) T' a → (∀ j, j < w → T' 31 j = jh_I h 31 0 j) → Q none (jP (jK h 2 T' m) S kc))  : jx_W (jm_Cal_copyOf, d + 2, 0, 0, false, 0, n0) Q 0 0 57 [some (jv_r 1 2), some (jv_r 1 0), some (jv_i (nI j))] [] (jP (jK h 2 T m) S kc) := by
  refine jr_iload rfl rfl ?_
  refine jr_ic rfl ?_
  refine jr_icmp_ge rfl (fun c59 => ?_) (fun c59 => ?_)
  · refine jr_vret rfl rfl (Nat.zero_le _) (Nat.zero_le _) ?_
    have hx1 : 12 ≤ j := jn_le (show nI 12 ≤ nI j from c59) (by omega) (by omega)
    exact k T ⟨t1.1, t1.2, t2, fun d hd => ⟨(t3 d hd).1, (t3 d hd).2, t4 d (by omega)⟩⟩ t5
  · have hl1 : j < 12 := jn_nle (show ¬ nI 12 ≤ nI j from c59) (by omega) (by omega)
    refine jr_aload rfl rfl ?_
    refine jr_getR rfl rfl rfl rfl (Or.inl rfl) ?_
    refine jr_iload rfl rfl ?_
    refine jr_aload rfl rfl ?_
    refine jr_getR rfl rfl rfl rfl (Or.inl rfl) ?_
    refine jr_iload rfl rfl ?_
    refine jr_zald (len := 12) rfl rfl rfl (by omega) ?_
    refine jr_zast (len := 12) rfl rfl rfl (by omega) ?_
    refine jr_iinc2 rfl rfl ?_
    refine jr_goto rfl ?_
    simp only [jPK_36, jPK_r36_2]
    rw [jn_S]
    refine lp_copy20 _ (j + 1) hA (by omega) t1 t2 t3 (fun d hd => ?_) t5 k
    show upd (T 36) j (jh_I h 36 0 j &&& 1) d = _
    by_cases e : d = j
    · rw [e, jg_us, (hA.2.2.2.2 j hl1).2.2]
      rw [jy_s_bt (by omega)]
      split <;> rfl
    · rw [jg_un e]; exact t4 d (by omega)
termination_by 12 - j
decreasing_by all_goals omega

set_option maxHeartbeats 800000 in
set_option maxRecDepth 100000 in
theorem ev_copy20 {d : Nat} {h : jx_H} {Q : Option jx_V → jx_H → Prop} {r m kc w : Nat} {a : jw_A} {S T : Nat → Nat → Int32} (hA : jy_A h 0 r a) (hw0 : a 0 = nI w) (hw : w ≤ 511) (k : ∀ T' : Nat → Nat → Int32, jy_T (jy_np h r) T' a → (∀ j, j < w → T' 31 j = jh_I h 31 0 j) → Q none (jP (jK h 2 T' (r + 1)) S kc))  : jx_Ev jm_Cal_copyOf (d + 2) 0 0 false 0 [jv_r 1 2, jv_r 1 0] (jP (jK h 2 T m) S kc) Q := by
  show jx_W (jm_Cal_copyOf, d + 2, 0, 0, false, 0, _) Q 0 0 0 [some (jv_r 1 2), some (jv_r 1 0), none] [] _
  refine jr_aload rfl rfl ?_
  refine jr_aload rfl rfl ?_
  refine jr_getM rfl rfl rfl rfl hA.1 ?_
  refine jr_putM rfl rfl rfl rfl ?_
  rw [jPK_M]
  refine jr_aload rfl rfl ?_
  refine jr_aload rfl rfl ?_
  refine jr_getI rfl rfl ?_
  refine jr_putI rfl rfl ?_
  simp only [jPK_1, jPK_r1_2]
  rw [show jh_I (jP (jK h 2 T (r + 1)) S kc) 1 0 2 = nI w from hA.2.1.trans hw0]
  refine jr_aload rfl rfl ?_
  refine jr_aload rfl rfl ?_
  refine jr_getI rfl rfl ?_
  rw [show jh_I (jP (jK h 2 (fun x => if x = 1 then upd (T 1) 2 (nI w) else T x) (r + 1)) S kc) 1 0 3 = a 1 from hA.2.2.1]
  refine jr_putI rfl rfl ?_
  simp only [jPK_1, jPK_r1_2]
  refine jr_aload rfl rfl ?_
  refine jr_getR rfl rfl rfl rfl (Or.inl rfl) ?_
  refine jr_ic rfl ?_
  refine jr_aload rfl rfl ?_
  refine jr_getR rfl rfl rfl rfl (Or.inl rfl) ?_
  refine jr_ic rfl ?_
  refine jr_aload rfl rfl ?_
  refine jr_getI rfl rfl ?_
  skip
  refine jr_ic rfl ?_
  refine jr_cs2 (mc' := 0) (ms' := 0) rfl jm_Math_min_n jm_Math_min_f rfl rfl rfl rfl rfl (Nat.zero_le _) (Nat.zero_le _) ?_
  refine ev_minN (w := w) (n := 512) rfl rfl (by omega) (by decide) ?_
  refine jr_copy (len0 := 512) (len := 512) (sp := 0) (dp := 0) (m := w) rfl rfl rfl (Nat.succ_le_succ (Nat.zero_le _)) rfl rfl rfl rfl rfl (by omega) (by omega) ?_
  simp only [jPK_31, jPK_r31_2]
  refine jr_aload rfl rfl ?_
  refine jr_getR rfl rfl rfl rfl (Or.inl rfl) ?_
  refine jr_ic rfl ?_
  refine jr_aload rfl rfl ?_
  refine jr_getR rfl rfl rfl rfl (Or.inl rfl) ?_
  refine jr_ic rfl ?_
  refine jr_ic rfl ?_
  refine jr_copy (len0 := 5) (len := 5) (sp := 0) (dp := 0) (m := 5) rfl rfl rfl (Nat.succ_le_succ (Nat.zero_le _)) rfl rfl rfl rfl rfl (by decide) (by decide) ?_
  simp only [jPK_32, jPK_r32_2]
  refine jr_aload rfl rfl ?_
  refine jr_getR rfl rfl rfl rfl (Or.inl rfl) ?_
  refine jr_ic rfl ?_
  refine jr_aload rfl rfl ?_
  refine jr_getR rfl rfl rfl rfl (Or.inl rfl) ?_
  refine jr_ic rfl ?_
  refine jr_ic rfl ?_
  refine jr_copy (len0 := 5) (len := 5) (sp := 0) (dp := 0) (m := 5) rfl rfl rfl (Nat.succ_le_succ (Nat.zero_le _)) rfl rfl rfl rfl rfl (by decide) (by decide) ?_
  simp only [jPK_33, jPK_r33_2]
  refine jr_aload rfl rfl ?_
  refine jr_getR rfl rfl rfl rfl (Or.inl rfl) ?_
  refine jr_ic rfl ?_
  refine jr_aload rfl rfl ?_
  refine jr_getR rfl rfl rfl rfl (Or.inl rfl) ?_
  refine jr_ic rfl ?_
  refine jr_ic rfl ?_
  refine jr_copy (len0 := 12) (len := 12) (sp := 0) (dp := 0) (m := 12) rfl rfl rfl (Nat.succ_le_succ (Nat.zero_le _)) rfl rfl rfl rfl rfl (by decide) (by decide) ?_
  simp only [jPK_34, jPK_r34_2]
  refine jr_aload rfl rfl ?_
  refine jr_getR rfl rfl rfl rfl (Or.inl rfl) ?_
  refine jr_ic rfl ?_
  refine jr_aload rfl rfl ?_
  refine jr_getR rfl rfl rfl rfl (Or.inl rfl) ?_
  refine jr_ic rfl ?_
  refine jr_ic rfl ?_
  refine jr_copy (len0 := 12) (len := 12) (sp := 0) (dp := 0) (m := 12) rfl rfl rfl (Nat.succ_le_succ (Nat.zero_le _)) rfl rfl rfl rfl rfl (by decide) (by decide) ?_
  simp only [jPK_35, jPK_r35_2]
  refine jr_ic rfl ?_
  refine jr_ist2 rfl rfl ?_
  refine lp_copy20 (w := w) _ 0 hA (by omega) ⟨hw0.symm, rfl⟩ (fun p hp => ⟨(sb_cpy0 hp).trans (hA.2.2.2.1 p hp).1, fun q => (sb_cpy0 hp).trans ((hA.2.2.2.1 p hp).2 q)⟩) (fun d hd => ⟨(sb_cpy0 hd).trans (hA.2.2.2.2 d hd).1, (sb_cpy0 hd).trans (hA.2.2.2.2 d hd).2.1⟩) (fun d hd => absurd hd (by omega)) (fun j hj => sb_cpy0 hj) k

set_option maxHeartbeats 800000 in
set_option maxRecDepth 100000 in
theorem lp_copy30 {d n0 : Nat} {Q : Option jx_V → jx_H → Prop} {h : jx_H} {r m kc w : Nat} {a : jw_A} {S : Nat → Nat → Int32} (T : Nat → Nat → Int32) (j : Nat) (hA : jy_A h 0 r a) (hj : j ≤ 12) (t1 : T 1 2 = a 0 ∧ T 1 3 = a 1) (t2 : ∀ p, p < 5 → T 32 p = a (2 + p) ∧ (p < jy_np h r → T 33 p = a (7 + p))) (t3 : ∀ d, d < 12 → T 34 d = a (12 + d) ∧ T 35 d = a (24 + d)) (t4 : ∀ d, d < j → T 36 d = (a 36 >>> (nI d &&& 31)) &&& 1) (t5 : ∀ j, j < w → T 31 j = jh_I h 31 0 j) (k : ∀ T' : Nat → Nat → Int32, jy_T (jy_np h r) T' a → (∀ j, j < w → T' 31 j = jh_I h 31 0 j) → Q none (jP (jK h 3 T' m) S kc))  : jx_W (jm_Cal_copyOf, d + 2, 0, 0, false, 0, n0) Q 0 0 57 [some (jv_r 1 3), some (jv_r 1 0), some (jv_i (nI j))] [] (jP (jK h 3 T m) S kc) := by
  refine jr_iload rfl rfl ?_
  refine jr_ic rfl ?_
  refine jr_icmp_ge rfl (fun c59 => ?_) (fun c59 => ?_)
  · refine jr_vret rfl rfl (Nat.zero_le _) (Nat.zero_le _) ?_
    have hx1 : 12 ≤ j := jn_le (show nI 12 ≤ nI j from c59) (by omega) (by omega)
    exact k T ⟨t1.1, t1.2, t2, fun d hd => ⟨(t3 d hd).1, (t3 d hd).2, t4 d (by omega)⟩⟩ t5
  · have hl1 : j < 12 := jn_nle (show ¬ nI 12 ≤ nI j from c59) (by omega) (by omega)
    refine jr_aload rfl rfl ?_
    refine jr_getR rfl rfl rfl rfl (Or.inl rfl) ?_
    refine jr_iload rfl rfl ?_
    refine jr_aload rfl rfl ?_
    refine jr_getR rfl rfl rfl rfl (Or.inl rfl) ?_
    refine jr_iload rfl rfl ?_
    refine jr_zald (len := 12) rfl rfl rfl (by omega) ?_
    refine jr_zast (len := 12) rfl rfl rfl (by omega) ?_
    refine jr_iinc2 rfl rfl ?_
    refine jr_goto rfl ?_
    simp only [jPK_36, jPK_r36_3]
    rw [jn_S]
    refine lp_copy30 _ (j + 1) hA (by omega) t1 t2 t3 (fun d hd => ?_) t5 k
    show upd (T 36) j (jh_I h 36 0 j &&& 1) d = _
    by_cases e : d = j
    · rw [e, jg_us, (hA.2.2.2.2 j hl1).2.2]
      rw [jy_s_bt (by omega)]
      split <;> rfl
    · rw [jg_un e]; exact t4 d (by omega)
termination_by 12 - j
decreasing_by all_goals omega

set_option maxHeartbeats 800000 in
set_option maxRecDepth 100000 in
theorem ev_copy30 {d : Nat} {h : jx_H} {Q : Option jx_V → jx_H → Prop} {r m kc w : Nat} {a : jw_A} {S T : Nat → Nat → Int32} (hA : jy_A h 0 r a) (hw0 : a 0 = nI w) (hw : w ≤ 511) (k : ∀ T' : Nat → Nat → Int32, jy_T (jy_np h r) T' a → (∀ j, j < w → T' 31 j = jh_I h 31 0 j) → Q none (jP (jK h 3 T' (r + 1)) S kc))  : jx_Ev jm_Cal_copyOf (d + 2) 0 0 false 0 [jv_r 1 3, jv_r 1 0] (jP (jK h 3 T m) S kc) Q := by
  show jx_W (jm_Cal_copyOf, d + 2, 0, 0, false, 0, _) Q 0 0 0 [some (jv_r 1 3), some (jv_r 1 0), none] [] _
  refine jr_aload rfl rfl ?_
  refine jr_aload rfl rfl ?_
  refine jr_getM rfl rfl rfl rfl hA.1 ?_
  refine jr_putM rfl rfl rfl rfl ?_
  rw [jPK_M]
  refine jr_aload rfl rfl ?_
  refine jr_aload rfl rfl ?_
  refine jr_getI rfl rfl ?_
  refine jr_putI rfl rfl ?_
  simp only [jPK_1, jPK_r1_3]
  rw [show jh_I (jP (jK h 3 T (r + 1)) S kc) 1 0 2 = nI w from hA.2.1.trans hw0]
  refine jr_aload rfl rfl ?_
  refine jr_aload rfl rfl ?_
  refine jr_getI rfl rfl ?_
  rw [show jh_I (jP (jK h 3 (fun x => if x = 1 then upd (T 1) 2 (nI w) else T x) (r + 1)) S kc) 1 0 3 = a 1 from hA.2.2.1]
  refine jr_putI rfl rfl ?_
  simp only [jPK_1, jPK_r1_3]
  refine jr_aload rfl rfl ?_
  refine jr_getR rfl rfl rfl rfl (Or.inl rfl) ?_
  refine jr_ic rfl ?_
  refine jr_aload rfl rfl ?_
  refine jr_getR rfl rfl rfl rfl (Or.inl rfl) ?_
  refine jr_ic rfl ?_
  refine jr_aload rfl rfl ?_
  refine jr_getI rfl rfl ?_
  skip
  refine jr_ic rfl ?_
  refine jr_cs2 (mc' := 0) (ms' := 0) rfl jm_Math_min_n jm_Math_min_f rfl rfl rfl rfl rfl (Nat.zero_le _) (Nat.zero_le _) ?_
  refine ev_minN (w := w) (n := 512) rfl rfl (by omega) (by decide) ?_
  refine jr_copy (len0 := 512) (len := 512) (sp := 0) (dp := 0) (m := w) rfl rfl rfl (Nat.succ_le_succ (Nat.zero_le _)) rfl rfl rfl rfl rfl (by omega) (by omega) ?_
  simp only [jPK_31, jPK_r31_3]
  refine jr_aload rfl rfl ?_
  refine jr_getR rfl rfl rfl rfl (Or.inl rfl) ?_
  refine jr_ic rfl ?_
  refine jr_aload rfl rfl ?_
  refine jr_getR rfl rfl rfl rfl (Or.inl rfl) ?_
  refine jr_ic rfl ?_
  refine jr_ic rfl ?_
  refine jr_copy (len0 := 5) (len := 5) (sp := 0) (dp := 0) (m := 5) rfl rfl rfl (Nat.succ_le_succ (Nat.zero_le _)) rfl rfl rfl rfl rfl (by decide) (by decide) ?_
  simp only [jPK_32, jPK_r32_3]
  refine jr_aload rfl rfl ?_
  refine jr_getR rfl rfl rfl rfl (Or.inl rfl) ?_
  refine jr_ic rfl ?_
  refine jr_aload rfl rfl ?_
  refine jr_getR rfl rfl rfl rfl (Or.inl rfl) ?_
  refine jr_ic rfl ?_
  refine jr_ic rfl ?_
  refine jr_copy (len0 := 5) (len := 5) (sp := 0) (dp := 0) (m := 5) rfl rfl rfl (Nat.succ_le_succ (Nat.zero_le _)) rfl rfl rfl rfl rfl (by decide) (by decide) ?_
  simp only [jPK_33, jPK_r33_3]
  refine jr_aload rfl rfl ?_
  refine jr_getR rfl rfl rfl rfl (Or.inl rfl) ?_
  refine jr_ic rfl ?_
  refine jr_aload rfl rfl ?_
  refine jr_getR rfl rfl rfl rfl (Or.inl rfl) ?_
  refine jr_ic rfl ?_
  refine jr_ic rfl ?_
  refine jr_copy (len0 := 12) (len := 12) (sp := 0) (dp := 0) (m := 12) rfl rfl rfl (Nat.succ_le_succ (Nat.zero_le _)) rfl rfl rfl rfl rfl (by decide) (by decide) ?_
  simp only [jPK_34, jPK_r34_3]
  refine jr_aload rfl rfl ?_
  refine jr_getR rfl rfl rfl rfl (Or.inl rfl) ?_
  refine jr_ic rfl ?_
  refine jr_aload rfl rfl ?_
  refine jr_getR rfl rfl rfl rfl (Or.inl rfl) ?_
  refine jr_ic rfl ?_
  refine jr_ic rfl ?_
  refine jr_copy (len0 := 12) (len := 12) (sp := 0) (dp := 0) (m := 12) rfl rfl rfl (Nat.succ_le_succ (Nat.zero_le _)) rfl rfl rfl rfl rfl (by decide) (by decide) ?_
  simp only [jPK_35, jPK_r35_3]
  refine jr_ic rfl ?_
  refine jr_ist2 rfl rfl ?_
  refine lp_copy30 (w := w) _ 0 hA (by omega) ⟨hw0.symm, rfl⟩ (fun p hp => ⟨(sb_cpy0 hp).trans (hA.2.2.2.1 p hp).1, fun q => (sb_cpy0 hp).trans ((hA.2.2.2.1 p hp).2 q)⟩) (fun d hd => ⟨(sb_cpy0 hd).trans (hA.2.2.2.2 d hd).1, (sb_cpy0 hd).trans (hA.2.2.2.2 d hd).2.1⟩) (fun d hd => absurd hd (by omega)) (fun j hj => sb_cpy0 hj) k

set_option maxHeartbeats 800000 in
set_option maxRecDepth 100000 in
theorem lp_copy01 {d n0 : Nat} {Q : Option jx_V → jx_H → Prop} {h : jx_H} {r m kc w : Nat} {a : jw_A} {S : Nat → Nat → Int32} (T : Nat → Nat → Int32) (j : Nat) (hA : jy_A h 1 r a) (hj : j ≤ 12) (t1 : T 1 2 = a 0 ∧ T 1 3 = a 1) (t2 : ∀ p, p < 5 → T 32 p = a (2 + p) ∧ (p < jy_np h r → T 33 p = a (7 + p))) (t3 : ∀ d, d < 12 → T 34 d = a (12 + d) ∧ T 35 d = a (24 + d)) (t4 : ∀ d, d < j → T 36 d = (a 36 >>> (nI d &&& 31)) &&& 1) (t5 : ∀ j, j < w → T 31 j = jh_I h 31 1 j) (k : ∀ T' : Nat → Nat → Int32, jy_T (jy_np h r) T' a → (∀ j, j < w → T' 31 j = jh_I h 31 1 j) → Q none (jP (jK h 0 T' m) S kc))  : jx_W (jm_Cal_copyOf, d + 2, 0, 0, false, 0, n0) Q 0 0 57 [some (jv_r 1 0), some (jv_r 1 1), some (jv_i (nI j))] [] (jP (jK h 0 T m) S kc) := by
  refine jr_iload rfl rfl ?_
  refine jr_ic rfl ?_
  refine jr_icmp_ge rfl (fun c59 => ?_) (fun c59 => ?_)
  · refine jr_vret rfl rfl (Nat.zero_le _) (Nat.zero_le _) ?_
    have hx1 : 12 ≤ j := jn_le (show nI 12 ≤ nI j from c59) (by omega) (by omega)
    exact k T ⟨t1.1, t1.2, t2, fun d hd => ⟨(t3 d hd).1, (t3 d hd).2, t4 d (by omega)⟩⟩ t5
  · have hl1 : j < 12 := jn_nle (show ¬ nI 12 ≤ nI j from c59) (by omega) (by omega)
    refine jr_aload rfl rfl ?_
    refine jr_getR rfl rfl rfl rfl (Or.inl rfl) ?_
    refine jr_iload rfl rfl ?_
    refine jr_aload rfl rfl ?_
    refine jr_getR rfl rfl rfl rfl (Or.inl rfl) ?_
    refine jr_iload rfl rfl ?_
    refine jr_zald (len := 12) rfl rfl rfl (by omega) ?_
    refine jr_zast (len := 12) rfl rfl rfl (by omega) ?_
    refine jr_iinc2 rfl rfl ?_
    refine jr_goto rfl ?_
    simp only [jPK_36, jPK_r36_0]
    rw [jn_S]
    refine lp_copy01 _ (j + 1) hA (by omega) t1 t2 t3 (fun d hd => ?_) t5 k
    show upd (T 36) j (jh_I h 36 1 j &&& 1) d = _
    by_cases e : d = j
    · rw [e, jg_us, (hA.2.2.2.2 j hl1).2.2]
      rw [jy_s_bt (by omega)]
      split <;> rfl
    · rw [jg_un e]; exact t4 d (by omega)
termination_by 12 - j
decreasing_by all_goals omega

set_option maxHeartbeats 800000 in
set_option maxRecDepth 100000 in
theorem ev_copy01 {d : Nat} {h : jx_H} {Q : Option jx_V → jx_H → Prop} {r m kc w : Nat} {a : jw_A} {S T : Nat → Nat → Int32} (hA : jy_A h 1 r a) (hw0 : a 0 = nI w) (hw : w ≤ 511) (k : ∀ T' : Nat → Nat → Int32, jy_T (jy_np h r) T' a → (∀ j, j < w → T' 31 j = jh_I h 31 1 j) → Q none (jP (jK h 0 T' (r + 1)) S kc))  : jx_Ev jm_Cal_copyOf (d + 2) 0 0 false 0 [jv_r 1 0, jv_r 1 1] (jP (jK h 0 T m) S kc) Q := by
  show jx_W (jm_Cal_copyOf, d + 2, 0, 0, false, 0, _) Q 0 0 0 [some (jv_r 1 0), some (jv_r 1 1), none] [] _
  refine jr_aload rfl rfl ?_
  refine jr_aload rfl rfl ?_
  refine jr_getM rfl rfl rfl rfl hA.1 ?_
  refine jr_putM rfl rfl rfl rfl ?_
  rw [jPK_M]
  refine jr_aload rfl rfl ?_
  refine jr_aload rfl rfl ?_
  refine jr_getI rfl rfl ?_
  refine jr_putI rfl rfl ?_
  simp only [jPK_1, jPK_r1_0]
  rw [show jh_I (jP (jK h 0 T (r + 1)) S kc) 1 1 2 = nI w from hA.2.1.trans hw0]
  refine jr_aload rfl rfl ?_
  refine jr_aload rfl rfl ?_
  refine jr_getI rfl rfl ?_
  rw [show jh_I (jP (jK h 0 (fun x => if x = 1 then upd (T 1) 2 (nI w) else T x) (r + 1)) S kc) 1 1 3 = a 1 from hA.2.2.1]
  refine jr_putI rfl rfl ?_
  simp only [jPK_1, jPK_r1_0]
  refine jr_aload rfl rfl ?_
  refine jr_getR rfl rfl rfl rfl (Or.inl rfl) ?_
  refine jr_ic rfl ?_
  refine jr_aload rfl rfl ?_
  refine jr_getR rfl rfl rfl rfl (Or.inl rfl) ?_
  refine jr_ic rfl ?_
  refine jr_aload rfl rfl ?_
  refine jr_getI rfl rfl ?_
  skip
  refine jr_ic rfl ?_
  refine jr_cs2 (mc' := 0) (ms' := 0) rfl jm_Math_min_n jm_Math_min_f rfl rfl rfl rfl rfl (Nat.zero_le _) (Nat.zero_le _) ?_
  refine ev_minN (w := w) (n := 512) rfl rfl (by omega) (by decide) ?_
  refine jr_copy (len0 := 512) (len := 512) (sp := 0) (dp := 0) (m := w) rfl rfl rfl (Nat.succ_le_succ (Nat.zero_le _)) rfl rfl rfl rfl rfl (by omega) (by omega) ?_
  simp only [jPK_31, jPK_r31_0]
  refine jr_aload rfl rfl ?_
  refine jr_getR rfl rfl rfl rfl (Or.inl rfl) ?_
  refine jr_ic rfl ?_
  refine jr_aload rfl rfl ?_
  refine jr_getR rfl rfl rfl rfl (Or.inl rfl) ?_
  refine jr_ic rfl ?_
  refine jr_ic rfl ?_
  refine jr_copy (len0 := 5) (len := 5) (sp := 0) (dp := 0) (m := 5) rfl rfl rfl (Nat.succ_le_succ (Nat.zero_le _)) rfl rfl rfl rfl rfl (by decide) (by decide) ?_
  simp only [jPK_32, jPK_r32_0]
  refine jr_aload rfl rfl ?_
  refine jr_getR rfl rfl rfl rfl (Or.inl rfl) ?_
  refine jr_ic rfl ?_
  refine jr_aload rfl rfl ?_
  refine jr_getR rfl rfl rfl rfl (Or.inl rfl) ?_
  refine jr_ic rfl ?_
  refine jr_ic rfl ?_
  refine jr_copy (len0 := 5) (len := 5) (sp := 0) (dp := 0) (m := 5) rfl rfl rfl (Nat.succ_le_succ (Nat.zero_le _)) rfl rfl rfl rfl rfl (by decide) (by decide) ?_
  simp only [jPK_33, jPK_r33_0]
  refine jr_aload rfl rfl ?_
  refine jr_getR rfl rfl rfl rfl (Or.inl rfl) ?_
  refine jr_ic rfl ?_
  refine jr_aload rfl rfl ?_
  refine jr_getR rfl rfl rfl rfl (Or.inl rfl) ?_
  refine jr_ic rfl ?_
  refine jr_ic rfl ?_
  refine jr_copy (len0 := 12) (len := 12) (sp := 0) (dp := 0) (m := 12) rfl rfl rfl (Nat.succ_le_succ (Nat.zero_le _)) rfl rfl rfl rfl rfl (by decide) (by decide) ?_
  simp only [jPK_34, jPK_r34_0]
  refine jr_aload rfl rfl ?_
  refine jr_getR rfl rfl rfl rfl (Or.inl rfl) ?_
  refine jr_ic rfl ?_
  refine jr_aload rfl rfl ?_
  refine jr_getR rfl rfl rfl rfl (Or.inl rfl) ?_
  refine jr_ic rfl ?_
  refine jr_ic rfl ?_
  refine jr_copy (len0 := 12) (len := 12) (sp := 0) (dp := 0) (m := 12) rfl rfl rfl (Nat.succ_le_succ (Nat.zero_le _)) rfl rfl rfl rfl rfl (by decide) (by decide) ?_
  simp only [jPK_35, jPK_r35_0]
  refine jr_ic rfl ?_
  refine jr_ist2 rfl rfl ?_
  refine lp_copy01 (w := w) _ 0 hA (by omega) ⟨hw0.symm, rfl⟩ (fun p hp => ⟨(sb_cpy0 hp).trans (hA.2.2.2.1 p hp).1, fun q => (sb_cpy0 hp).trans ((hA.2.2.2.1 p hp).2 q)⟩) (fun d hd => ⟨(sb_cpy0 hd).trans (hA.2.2.2.2 d hd).1, (sb_cpy0 hd).trans (hA.2.2.2.2 d hd).2.1⟩) (fun d hd => absurd hd (by omega)) (fun j hj => sb_cpy0 hj) k

set_option maxHeartbeats 800000 in
set_option maxRecDepth 100000 in
theorem lp_copy02 {d n0 : Nat} {Q : Option jx_V → jx_H → Prop} {h : jx_H} {r m kc w : Nat} {a : jw_A} {S : Nat → Nat → Int32} (T : Nat → Nat → Int32) (j : Nat) (hA : jy_A h 2 r a) (hj : j ≤ 12) (t1 : T 1 2 = a 0 ∧ T 1 3 = a 1) (t2 : ∀ p, p < 5 → T 32 p = a (2 + p) ∧ (p < jy_np h r → T 33 p = a (7 + p))) (t3 : ∀ d, d < 12 → T 34 d = a (12 + d) ∧ T 35 d = a (24 + d)) (t4 : ∀ d, d < j → T 36 d = (a 36 >>> (nI d &&& 31)) &&& 1) (t5 : ∀ j, j < w → T 31 j = jh_I h 31 2 j) (k : ∀ T' : Nat → Nat → Int32, jy_T (jy_np h r) T' a → (∀ j, j < w → T' 31 j = jh_I h 31 2 j) → Q none (jP (jK h 0 T' m) S kc))  : jx_W (jm_Cal_copyOf, d + 2, 0, 0, false, 0, n0) Q 0 0 57 [some (jv_r 1 0), some (jv_r 1 2), some (jv_i (nI j))] [] (jP (jK h 0 T m) S kc) := by
  refine jr_iload rfl rfl ?_
  refine jr_ic rfl ?_
  refine jr_icmp_ge rfl (fun c59 => ?_) (fun c59 => ?_)
  · refine jr_vret rfl rfl (Nat.zero_le _) (Nat.zero_le _) ?_
    have hx1 : 12 ≤ j := jn_le (show nI 12 ≤ nI j from c59) (by omega) (by omega)
    exact k T ⟨t1.1, t1.2, t2, fun d hd => ⟨(t3 d hd).1, (t3 d hd).2, t4 d (by omega)⟩⟩ t5
  · have hl1 : j < 12 := jn_nle (show ¬ nI 12 ≤ nI j from c59) (by omega) (by omega)
    refine jr_aload rfl rfl ?_
    refine jr_getR rfl rfl rfl rfl (Or.inl rfl) ?_
    refine jr_iload rfl rfl ?_
    refine jr_aload rfl rfl ?_
    refine jr_getR rfl rfl rfl rfl (Or.inl rfl) ?_
    refine jr_iload rfl rfl ?_
    refine jr_zald (len := 12) rfl rfl rfl (by omega) ?_
    refine jr_zast (len := 12) rfl rfl rfl (by omega) ?_
    refine jr_iinc2 rfl rfl ?_
    refine jr_goto rfl ?_
    simp only [jPK_36, jPK_r36_0]
    rw [jn_S]
    refine lp_copy02 _ (j + 1) hA (by omega) t1 t2 t3 (fun d hd => ?_) t5 k
    show upd (T 36) j (jh_I h 36 2 j &&& 1) d = _
    by_cases e : d = j
    · rw [e, jg_us, (hA.2.2.2.2 j hl1).2.2]
      rw [jy_s_bt (by omega)]
      split <;> rfl
    · rw [jg_un e]; exact t4 d (by omega)
termination_by 12 - j
decreasing_by all_goals omega

set_option maxHeartbeats 800000 in
set_option maxRecDepth 100000 in
theorem ev_copy02 {d : Nat} {h : jx_H} {Q : Option jx_V → jx_H → Prop} {r m kc w : Nat} {a : jw_A} {S T : Nat → Nat → Int32} (hA : jy_A h 2 r a) (hw0 : a 0 = nI w) (hw : w ≤ 511) (k : ∀ T' : Nat → Nat → Int32, jy_T (jy_np h r) T' a → (∀ j, j < w → T' 31 j = jh_I h 31 2 j) → Q none (jP (jK h 0 T' (r + 1)) S kc))  : jx_Ev jm_Cal_copyOf (d + 2) 0 0 false 0 [jv_r 1 0, jv_r 1 2] (jP (jK h 0 T m) S kc) Q := by
  show jx_W (jm_Cal_copyOf, d + 2, 0, 0, false, 0, _) Q 0 0 0 [some (jv_r 1 0), some (jv_r 1 2), none] [] _
  refine jr_aload rfl rfl ?_
  refine jr_aload rfl rfl ?_
  refine jr_getM rfl rfl rfl rfl hA.1 ?_
  refine jr_putM rfl rfl rfl rfl ?_
  rw [jPK_M]
  refine jr_aload rfl rfl ?_
  refine jr_aload rfl rfl ?_
  refine jr_getI rfl rfl ?_
  refine jr_putI rfl rfl ?_
  simp only [jPK_1, jPK_r1_0]
  rw [show jh_I (jP (jK h 0 T (r + 1)) S kc) 1 2 2 = nI w from hA.2.1.trans hw0]
  refine jr_aload rfl rfl ?_
  refine jr_aload rfl rfl ?_
  refine jr_getI rfl rfl ?_
  rw [show jh_I (jP (jK h 0 (fun x => if x = 1 then upd (T 1) 2 (nI w) else T x) (r + 1)) S kc) 1 2 3 = a 1 from hA.2.2.1]
  refine jr_putI rfl rfl ?_
  simp only [jPK_1, jPK_r1_0]
  refine jr_aload rfl rfl ?_
  refine jr_getR rfl rfl rfl rfl (Or.inl rfl) ?_
  refine jr_ic rfl ?_
  refine jr_aload rfl rfl ?_
  refine jr_getR rfl rfl rfl rfl (Or.inl rfl) ?_
  refine jr_ic rfl ?_
  refine jr_aload rfl rfl ?_
  refine jr_getI rfl rfl ?_
  skip
  refine jr_ic rfl ?_
  refine jr_cs2 (mc' := 0) (ms' := 0) rfl jm_Math_min_n jm_Math_min_f rfl rfl rfl rfl rfl (Nat.zero_le _) (Nat.zero_le _) ?_
  refine ev_minN (w := w) (n := 512) rfl rfl (by omega) (by decide) ?_
  refine jr_copy (len0 := 512) (len := 512) (sp := 0) (dp := 0) (m := w) rfl rfl rfl (Nat.succ_le_succ (Nat.zero_le _)) rfl rfl rfl rfl rfl (by omega) (by omega) ?_
  simp only [jPK_31, jPK_r31_0]
  refine jr_aload rfl rfl ?_
  refine jr_getR rfl rfl rfl rfl (Or.inl rfl) ?_
  refine jr_ic rfl ?_
  refine jr_aload rfl rfl ?_
  refine jr_getR rfl rfl rfl rfl (Or.inl rfl) ?_
  refine jr_ic rfl ?_
  refine jr_ic rfl ?_
  refine jr_copy (len0 := 5) (len := 5) (sp := 0) (dp := 0) (m := 5) rfl rfl rfl (Nat.succ_le_succ (Nat.zero_le _)) rfl rfl rfl rfl rfl (by decide) (by decide) ?_
  simp only [jPK_32, jPK_r32_0]
  refine jr_aload rfl rfl ?_
  refine jr_getR rfl rfl rfl rfl (Or.inl rfl) ?_
  refine jr_ic rfl ?_
  refine jr_aload rfl rfl ?_
  refine jr_getR rfl rfl rfl rfl (Or.inl rfl) ?_
  refine jr_ic rfl ?_
  refine jr_ic rfl ?_
  refine jr_copy (len0 := 5) (len := 5) (sp := 0) (dp := 0) (m := 5) rfl rfl rfl (Nat.succ_le_succ (Nat.zero_le _)) rfl rfl rfl rfl rfl (by decide) (by decide) ?_
  simp only [jPK_33, jPK_r33_0]
  refine jr_aload rfl rfl ?_
  refine jr_getR rfl rfl rfl rfl (Or.inl rfl) ?_
  refine jr_ic rfl ?_
  refine jr_aload rfl rfl ?_
  refine jr_getR rfl rfl rfl rfl (Or.inl rfl) ?_
  refine jr_ic rfl ?_
  refine jr_ic rfl ?_
  refine jr_copy (len0 := 12) (len := 12) (sp := 0) (dp := 0) (m := 12) rfl rfl rfl (Nat.succ_le_succ (Nat.zero_le _)) rfl rfl rfl rfl rfl (by decide) (by decide) ?_
  simp only [jPK_34, jPK_r34_0]
  refine jr_aload rfl rfl ?_
  refine jr_getR rfl rfl rfl rfl (Or.inl rfl) ?_
  refine jr_ic rfl ?_
  refine jr_aload rfl rfl ?_
  refine jr_getR rfl rfl rfl rfl (Or.inl rfl) ?_
  refine jr_ic rfl ?_
  refine jr_ic rfl ?_
  refine jr_copy (len0 := 12) (len := 12) (sp := 0) (dp := 0) (m := 12) rfl rfl rfl (Nat.succ_le_succ (Nat.zero_le _)) rfl rfl rfl rfl rfl (by decide) (by decide) ?_
  simp only [jPK_35, jPK_r35_0]
  refine jr_ic rfl ?_
  refine jr_ist2 rfl rfl ?_
  refine lp_copy02 (w := w) _ 0 hA (by omega) ⟨hw0.symm, rfl⟩ (fun p hp => ⟨(sb_cpy0 hp).trans (hA.2.2.2.1 p hp).1, fun q => (sb_cpy0 hp).trans ((hA.2.2.2.1 p hp).2 q)⟩) (fun d hd => ⟨(sb_cpy0 hd).trans (hA.2.2.2.2 d hd).1, (sb_cpy0 hd).trans (hA.2.2.2.2 d hd).2.1⟩) (fun d hd => absurd hd (by omega)) (fun j hj => sb_cpy0 hj) k

set_option maxHeartbeats 800000 in
set_option maxRecDepth 100000 in
theorem lp_copy03 {d n0 : Nat} {Q : Option jx_V → jx_H → Prop} {h : jx_H} {r m kc w : Nat} {a : jw_A} {S : Nat → Nat → Int32} (T : Nat → Nat → Int32) (j : Nat) (hA : jy_A h 3 r a) (hj : j ≤ 12) (t1 : T 1 2 = a 0 ∧ T 1 3 = a 1) (t2 : ∀ p, p < 5 → T 32 p = a (2 + p) ∧ (p < jy_np h r → T 33 p = a (7 + p))) (t3 : ∀ d, d < 12 → T 34 d = a (12 + d) ∧ T 35 d = a (24 + d)) (t4 : ∀ d, d < j → T 36 d = (a 36 >>> (nI d &&& 31)) &&& 1) (t5 : ∀ j, j < w → T 31 j = jh_I h 31 3 j) (k : ∀ T' : Nat → Nat → Int32, jy_T (jy_np h r) T' a → (∀ j, j < w → T' 31 j = jh_I h 31 3 j) → Q none (jP (jK h 0 T' m) S kc))  : jx_W (jm_Cal_copyOf, d + 2, 0, 0, false, 0, n0) Q 0 0 57 [some (jv_r 1 0), some (jv_r 1 3), some (jv_i (nI j))] [] (jP (jK h 0 T m) S kc) := by
  refine jr_iload rfl rfl ?_
  refine jr_ic rfl ?_
  refine jr_icmp_ge rfl (fun c59 => ?_) (fun c59 => ?_)
  · refine jr_vret rfl rfl (Nat.zero_le _) (Nat.zero_le _) ?_
    have hx1 : 12 ≤ j := jn_le (show nI 12 ≤ nI j from c59) (by omega) (by omega)
    exact k T ⟨t1.1, t1.2, t2, fun d hd => ⟨(t3 d hd).1, (t3 d hd).2, t4 d (by omega)⟩⟩ t5
  · have hl1 : j < 12 := jn_nle (show ¬ nI 12 ≤ nI j from c59) (by omega) (by omega)
    refine jr_aload rfl rfl ?_
    refine jr_getR rfl rfl rfl rfl (Or.inl rfl) ?_
    refine jr_iload rfl rfl ?_
    refine jr_aload rfl rfl ?_
    refine jr_getR rfl rfl rfl rfl (Or.inl rfl) ?_
    refine jr_iload rfl rfl ?_
    refine jr_zald (len := 12) rfl rfl rfl (by omega) ?_
    refine jr_zast (len := 12) rfl rfl rfl (by omega) ?_
    refine jr_iinc2 rfl rfl ?_
    refine jr_goto rfl ?_
    simp only [jPK_36, jPK_r36_0]
    rw [jn_S]
    refine lp_copy03 _ (j + 1) hA (by omega) t1 t2 t3 (fun d hd => ?_) t5 k
    show upd (T 36) j (jh_I h 36 3 j &&& 1) d = _
    by_cases e : d = j
    · rw [e, jg_us, (hA.2.2.2.2 j hl1).2.2]
      rw [jy_s_bt (by omega)]
      split <;> rfl
    · rw [jg_un e]; exact t4 d (by omega)
termination_by 12 - j
decreasing_by all_goals omega

set_option maxHeartbeats 800000 in
set_option maxRecDepth 100000 in
theorem ev_copy03 {d : Nat} {h : jx_H} {Q : Option jx_V → jx_H → Prop} {r m kc w : Nat} {a : jw_A} {S T : Nat → Nat → Int32} (hA : jy_A h 3 r a) (hw0 : a 0 = nI w) (hw : w ≤ 511) (k : ∀ T' : Nat → Nat → Int32, jy_T (jy_np h r) T' a → (∀ j, j < w → T' 31 j = jh_I h 31 3 j) → Q none (jP (jK h 0 T' (r + 1)) S kc))  : jx_Ev jm_Cal_copyOf (d + 2) 0 0 false 0 [jv_r 1 0, jv_r 1 3] (jP (jK h 0 T m) S kc) Q := by
  show jx_W (jm_Cal_copyOf, d + 2, 0, 0, false, 0, _) Q 0 0 0 [some (jv_r 1 0), some (jv_r 1 3), none] [] _
  refine jr_aload rfl rfl ?_
  refine jr_aload rfl rfl ?_
  refine jr_getM rfl rfl rfl rfl hA.1 ?_
  refine jr_putM rfl rfl rfl rfl ?_
  rw [jPK_M]
  refine jr_aload rfl rfl ?_
  refine jr_aload rfl rfl ?_
  refine jr_getI rfl rfl ?_
  refine jr_putI rfl rfl ?_
  simp only [jPK_1, jPK_r1_0]
  rw [show jh_I (jP (jK h 0 T (r + 1)) S kc) 1 3 2 = nI w from hA.2.1.trans hw0]
  refine jr_aload rfl rfl ?_
  refine jr_aload rfl rfl ?_
  refine jr_getI rfl rfl ?_
  rw [show jh_I (jP (jK h 0 (fun x => if x = 1 then upd (T 1) 2 (nI w) else T x) (r + 1)) S kc) 1 3 3 = a 1 from hA.2.2.1]
  refine jr_putI rfl rfl ?_
  simp only [jPK_1, jPK_r1_0]
  refine jr_aload rfl rfl ?_
  refine jr_getR rfl rfl rfl rfl (Or.inl rfl) ?_
  refine jr_ic rfl ?_
  refine jr_aload rfl rfl ?_
  refine jr_getR rfl rfl rfl rfl (Or.inl rfl) ?_
  refine jr_ic rfl ?_
  refine jr_aload rfl rfl ?_
  refine jr_getI rfl rfl ?_
  skip
  refine jr_ic rfl ?_
  refine jr_cs2 (mc' := 0) (ms' := 0) rfl jm_Math_min_n jm_Math_min_f rfl rfl rfl rfl rfl (Nat.zero_le _) (Nat.zero_le _) ?_
  refine ev_minN (w := w) (n := 512) rfl rfl (by omega) (by decide) ?_
  refine jr_copy (len0 := 512) (len := 512) (sp := 0) (dp := 0) (m := w) rfl rfl rfl (Nat.succ_le_succ (Nat.zero_le _)) rfl rfl rfl rfl rfl (by omega) (by omega) ?_
  simp only [jPK_31, jPK_r31_0]
  refine jr_aload rfl rfl ?_
  refine jr_getR rfl rfl rfl rfl (Or.inl rfl) ?_
  refine jr_ic rfl ?_
  refine jr_aload rfl rfl ?_
  refine jr_getR rfl rfl rfl rfl (Or.inl rfl) ?_
  refine jr_ic rfl ?_
  refine jr_ic rfl ?_
  refine jr_copy (len0 := 5) (len := 5) (sp := 0) (dp := 0) (m := 5) rfl rfl rfl (Nat.succ_le_succ (Nat.zero_le _)) rfl rfl rfl rfl rfl (by decide) (by decide) ?_
  simp only [jPK_32, jPK_r32_0]
  refine jr_aload rfl rfl ?_
  refine jr_getR rfl rfl rfl rfl (Or.inl rfl) ?_
  refine jr_ic rfl ?_
  refine jr_aload rfl rfl ?_
  refine jr_getR rfl rfl rfl rfl (Or.inl rfl) ?_
  refine jr_ic rfl ?_
  refine jr_ic rfl ?_
  refine jr_copy (len0 := 5) (len := 5) (sp := 0) (dp := 0) (m := 5) rfl rfl rfl (Nat.succ_le_succ (Nat.zero_le _)) rfl rfl rfl rfl rfl (by decide) (by decide) ?_
  simp only [jPK_33, jPK_r33_0]
  refine jr_aload rfl rfl ?_
  refine jr_getR rfl rfl rfl rfl (Or.inl rfl) ?_
  refine jr_ic rfl ?_
  refine jr_aload rfl rfl ?_
  refine jr_getR rfl rfl rfl rfl (Or.inl rfl) ?_
  refine jr_ic rfl ?_
  refine jr_ic rfl ?_
  refine jr_copy (len0 := 12) (len := 12) (sp := 0) (dp := 0) (m := 12) rfl rfl rfl (Nat.succ_le_succ (Nat.zero_le _)) rfl rfl rfl rfl rfl (by decide) (by decide) ?_
  simp only [jPK_34, jPK_r34_0]
  refine jr_aload rfl rfl ?_
  refine jr_getR rfl rfl rfl rfl (Or.inl rfl) ?_
  refine jr_ic rfl ?_
  refine jr_aload rfl rfl ?_
  refine jr_getR rfl rfl rfl rfl (Or.inl rfl) ?_
  refine jr_ic rfl ?_
  refine jr_ic rfl ?_
  refine jr_copy (len0 := 12) (len := 12) (sp := 0) (dp := 0) (m := 12) rfl rfl rfl (Nat.succ_le_succ (Nat.zero_le _)) rfl rfl rfl rfl rfl (by decide) (by decide) ?_
  simp only [jPK_35, jPK_r35_0]
  refine jr_ic rfl ?_
  refine jr_ist2 rfl rfl ?_
  refine lp_copy03 (w := w) _ 0 hA (by omega) ⟨hw0.symm, rfl⟩ (fun p hp => ⟨(sb_cpy0 hp).trans (hA.2.2.2.1 p hp).1, fun q => (sb_cpy0 hp).trans ((hA.2.2.2.1 p hp).2 q)⟩) (fun d hd => ⟨(sb_cpy0 hd).trans (hA.2.2.2.2 d hd).1, (sb_cpy0 hd).trans (hA.2.2.2.2 d hd).2.1⟩) (fun d hd => absurd hd (by omega)) (fun j hj => sb_cpy0 hj) k

