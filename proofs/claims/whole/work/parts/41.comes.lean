theorem jPK_due {h : jx_H} {T S : Nat → Nat → Int32} {c m k i f : Nat} : jh_I (jP (jK h c T m) S k) 2 i f = jh_I h 2 i f := rfl
set_option maxHeartbeats 800000 in
set_option maxRecDepth 100000 in
theorem ev_give0 {d : Nat} {h : jx_H} {Q : Option jx_V → jx_H → Prop} {S T : Nat → Nat → Int32} {m kc p : Nat} {v : Int32} (hp : p < 5) (k : ∀ T' : Nat → Nat → Int32, (∀ x, x ≠ 32 → T' x = T x) → T' 32 = upd (T 32) p (T 32 p + v) → Q none (jP (jK h 0 T' m) S kc))  : jx_Ev jm_Cal_give (d) 0 0 false 0 [jv_r 1 0, jv_i (nI p), jv_i v] (jP (jK h 0 T m) S kc) Q := by
  show jx_W (jm_Cal_give, d, 0, 0, false, 0, _) Q 0 0 0 [some (jv_r 1 0), some (jv_i (nI p)), some (jv_i v)] [] _
  refine jr_iload rfl rfl ?_
  refine jr_if_lt rfl (fun z => absurd z (nI_pos (by omega))) (fun _ => ?_)
  refine jr_iload rfl rfl ?_
  refine jr_aload rfl rfl ?_
  refine jr_getR rfl rfl rfl rfl (Or.inl rfl) ?_
  refine jr_alen (so := 1) (len := 5) rfl rfl rfl rfl ?_
  refine jr_icmp_ge rfl (fun z => absurd z (nI_ge (a := p) (b := 5) hp (by decide))) (fun _ => ?_)
  refine jr_aload rfl rfl ?_
  refine jr_getR rfl rfl rfl rfl (Or.inl rfl) ?_
  refine jr_iload rfl rfl ?_
  refine jr_dup2 rfl ?_
  refine jr_iald (len := 5) rfl rfl rfl (by omega) ?_
  refine jr_iload rfl rfl ?_
  refine jr_iadd rfl ?_
  refine jr_iast (len := 5) rfl rfl rfl (by omega) ?_
  refine jr_vret rfl rfl (Nat.zero_le _) (Nat.zero_le _) ?_
  simp only [jPK_32, jPK_r32_0]
  exact k _ (fun x hx => if_neg hx) rfl

set_option maxHeartbeats 800000 in
set_option maxRecDepth 100000 in
theorem lp_settle0 {d n0 : Nat} {Q : Option jx_V → jx_H → Prop} {h hm : jx_H} {b r kc : Nat} {S T0 : Nat → Nat → Int32} {l t wr fg : Int32} (T : Nat → Nat → Int32) (j : Nat) (hR0 : jz_R hm b) (hR : jy_R h r hm b) (hmo : ¬ jC hm b 0 0 = 0) (hw0 : T0 1 2 = wr) (hfg : ∀ d, d < 12 → T0 36 d = (fg >>> (nI d &&& 31)) &&& 1) (hl0 : 0 ≤ l) (hj : j ≤ jz_nd hm b) (hfr : ∀ x, x ≠ 32 → x ≠ 34 → x ≠ 35 → T x = T0 x) (hI : (∀ p, p < 5 → T 32 p = T0 32 p + t * jw_del (jC hm b) (jw_rem wr (jC hm b 0 0)) fg l j (2 + p)) ∧ (∀ d, d < 12 → T 34 d = T0 34 d + t * jw_del (jC hm b) (jw_rem wr (jC hm b 0 0)) fg l j (12 + d) ∧ T 35 d = T0 35 d + t * jw_del (jC hm b) (jw_rem wr (jC hm b 0 0)) fg l j (24 + d))) (k : ∀ T' : Nat → Nat → Int32, (∀ x, x ≠ 32 → x ≠ 34 → x ≠ 35 → T' x = T0 x) → (∀ p, p < 5 → T' 32 p = T0 32 p + t * jw_del (jC hm b) (jw_rem wr (jC hm b 0 0)) fg l (jz_nd hm b) (2 + p)) ∧ (∀ d, d < 12 → T' 34 d = T0 34 d + t * jw_del (jC hm b) (jw_rem wr (jC hm b 0 0)) fg l (jz_nd hm b) (12 + d) ∧ T' 35 d = T0 35 d + t * jw_del (jC hm b) (jw_rem wr (jC hm b 0 0)) fg l (jz_nd hm b) (24 + d)) → Q none (jP (jK h 0 T' (r + 1)) S kc))  : jx_W (jm_Cal_settleDues, d + 3, 0, 0, false, 0, n0) Q 0 0 5 [some (jv_r 1 0), some (jv_i l), some (jv_i t), some (jv_i (jw_rem wr (jC hm b 0 0))), some (jv_i (nI j)), none] [] (jP (jK h 0 T (r + 1)) S kc) := by
  have hnd := hR0.2.2.1
  have hnd5 := hnd.2
  have hnp5 := hR0.2.1.2
  refine jr_iload rfl rfl ?_
  refine jr_aload rfl rfl ?_
  refine jr_getM rfl rfl rfl rfl rfl ?_
  refine jr_getI rfl rfl ?_
  rw [show jh_I (jP (jK h 0 T (r + 1)) S kc) 7 r 5 = nI (jz_nd hm b) from hR.2.2.1.trans hnd.1]
  refine jr_icmp_ge rfl (fun c9 => ?_) (fun c9 => ?_)
  · refine jr_vret rfl rfl (Nat.zero_le _) (Nat.zero_le _) ?_
    have hj2 : j = jz_nd hm b := by have := jn_le (show nI (jz_nd hm b) ≤ nI j from c9) (by omega) (by omega); omega
    subst hj2
    exact k T hfr hI
  · have hj1 : j < jz_nd hm b := jn_nle (show ¬ nI (jz_nd hm b) ≤ nI j from c9) (by omega) (by omega)
    have hdue := hR.2.2.2.2.2.1 j hj1
    obtain ⟨x, y, z, u, m, hx, hy2, -, -, -, hx1, hy1, hxy, -⟩ := hR0.2.2.2.2.1 j hj1
    have hpd : jy_pd h (12 * r + j) l = jw_paid (jC hm b) j l := jy_pd_eq hdue
    refine jr_iload rfl rfl ?_
    refine jr_ic rfl ?_
    refine jr_icmp_ge rfl (fun z => absurd z (nI_ge (a := j) (b := 12) (by omega) (by decide))) (fun _ => ?_)
    refine jr_aload rfl rfl ?_
    refine jr_getM rfl rfl rfl rfl rfl ?_
    refine jr_iload rfl rfl ?_
    refine jr_cv1 (mc' := 0) (ms' := 0) rfl jm_Rep_dueAt_n jm_Rep_dueAt_f rfl rfl rfl rfl rfl rfl rfl (Nat.zero_le _) (Nat.zero_le _) ?_
    refine ev_Rep_dueAt (by omega) ?_
    refine jr_ast5 rfl rfl ?_
    refine jr_aload rfl rfl ?_
    refine jr_getI rfl rfl ?_
    rw [show jh_I (jP (jK h 0 T (r + 1)) S kc) 2 (12 * r + j) 4 = jC hm b 10 j from hdue.2.2.2.2.1]
    refine jr_iload rfl rfl ?_
    refine jr_icmp_ne rfl (fun c21 => ?_) (fun c21 => ?_)
    · refine jr_iinc4 rfl rfl ?_
      refine jr_goto rfl ?_
      have hno : ¬ (jC hm b 10 j = jw_rem wr (jC hm b 0 0) ∧ ¬ ((fg >>> (nI j &&& 31)) &&& 1 = 1)) := fun z => c21 z.1
      rw [jn_S]
      refine jr_drop 5 (lp_settle0 T (j + 1) hR0 hR hmo hw0 hfg hl0 (by omega) hfr ?_ k)
      obtain ⟨i1, i2⟩ := hI
      refine ⟨fun p hp => ?_, fun d hd => ⟨?_, ?_⟩⟩
      · rw [i1 p hp, jw_del, jw_d1_n hno, Int32.add_zero]
      · rw [(i2 d hd).1, jw_del, jw_d1_n hno, Int32.add_zero]
      · rw [(i2 d hd).2, jw_del, jw_d1_n hno, Int32.add_zero]
    · refine jr_aload rfl rfl ?_
      refine jr_getR rfl rfl rfl rfl (Or.inl rfl) ?_
      refine jr_iload rfl rfl ?_
      refine jr_zald (len := 12) rfl rfl rfl (by omega) ?_
      rw [show jh_I (jP (jK h 0 T (r + 1)) S kc) 36 0 j = (fg >>> (nI j &&& 31)) &&& 1 from (congrFun (hfr 36 (by decide) (by decide) (by decide)) j).trans (hfg j (by omega))]
      refine jr_if_ne rfl (fun c26 => ?_) (fun c26 => ?_)
      · refine jr_iinc4 rfl rfl ?_
        refine jr_goto rfl ?_
        have hno : ¬ (jC hm b 10 j = jw_rem wr (jC hm b 0 0) ∧ ¬ ((fg >>> (nI j &&& 31)) &&& 1 = 1)) := by
          rintro ⟨-, z⟩
          rw [jy_s_bt (by omega)] at z c26
          split at c26
          · rename_i e; exact z (if_pos e)
          · exact c26 rfl
        rw [jn_S]
        refine jr_drop 5 (lp_settle0 T (j + 1) hR0 hR hmo hw0 hfg hl0 (by omega) hfr ?_ k)
        obtain ⟨i1, i2⟩ := hI
        refine ⟨fun p hp => ?_, fun d hd => ⟨?_, ?_⟩⟩
        · rw [i1 p hp, jw_del, jw_d1_n hno, Int32.add_zero]
        · rw [(i2 d hd).1, jw_del, jw_d1_n hno, Int32.add_zero]
        · rw [(i2 d hd).2, jw_del, jw_d1_n hno, Int32.add_zero]
      · refine jr_aload rfl rfl ?_
        refine jr_iload rfl rfl ?_
        refine jr_cv1 (mc' := 0) (ms' := 0) rfl jm_Due_dayPaid_n jm_Due_dayPaid_f rfl rfl rfl rfl rfl rfl rfl (Nat.zero_le _) (Nat.zero_le _) ?_
        refine ev_Due_dayPaid hl0 ?_
        refine jr_if_ne rfl (fun c30 => ?_) (fun c30 => ?_)
        · refine jr_aload rfl rfl ?_
          refine jr_getR rfl rfl rfl rfl (Or.inl rfl) ?_
          refine jr_iload rfl rfl ?_
          refine jr_dup2 rfl ?_
          refine jr_iald (len := 12) rfl rfl rfl (by omega) ?_
          refine jr_iload rfl rfl ?_
          refine jr_iadd rfl ?_
          refine jr_iast (len := 12) rfl rfl rfl (by omega) ?_
          simp only [jPK_34, jPK_r34_0]
          refine jr_aload rfl rfl ?_
          refine jr_aload rfl rfl ?_
          refine jr_getI rfl rfl ?_
          simp only [jPK_due]
          rw [hdue.1.trans hx]
          refine jr_iload rfl rfl ?_
          refine jr_ineg rfl ?_
          refine jr_aload rfl rfl ?_
          refine jr_getI rfl rfl ?_
          simp only [jPK_due]
          rw [hdue.2.2.1]
          refine jr_imul rfl ?_
          refine jr_cv2 (mc' := 0) (ms' := 0) rfl jm_Cal_give_n jm_Cal_give_f rfl rfl rfl rfl rfl rfl rfl (Nat.zero_le _) (Nat.zero_le _) ?_
          refine ev_give0 (by omega) (fun T2 f2 g2 => ?_)
          refine jr_aload rfl rfl ?_
          refine jr_aload rfl rfl ?_
          refine jr_getI rfl rfl ?_
          simp only [jPK_due]
          rw [hdue.2.1.trans hy2]
          refine jr_iload rfl rfl ?_
          refine jr_aload rfl rfl ?_
          refine jr_getI rfl rfl ?_
          simp only [jPK_due]
          rw [hdue.2.2.1]
          refine jr_imul rfl ?_
          refine jr_cv2 (mc' := 0) (ms' := 0) rfl jm_Cal_give_n jm_Cal_give_f rfl rfl rfl rfl rfl rfl rfl (Nat.zero_le _) (Nat.zero_le _) ?_
          refine ev_give0 (by omega) (fun T3 f3 g3 => ?_)
          refine jr_iinc4 rfl rfl ?_
          refine jr_goto rfl ?_
          have hy : jC hm b 10 j = jw_rem wr (jC hm b 0 0) ∧ ¬ ((fg >>> (nI j &&& 31)) &&& 1 = 1) := ⟨c21, by rw [c26]; decide⟩
          rw [jn_S]
          refine jr_drop 5 (lp_settle0 T3 (j + 1) hR0 hR hmo hw0 hfg hl0 (by omega) (fun x h1 h2 h3 => (f3 x h1).trans ((f2 x h1).trans ((if_neg h2).trans (hfr x h1 h2 h3)))) ?_ k)
          obtain ⟨i1, i2⟩ := hI
          have c30' : ¬ jw_paid (jC hm b) j l = 0 := fun z => c30 (hpd.trans z)
          have e34 : T3 34 = upd (T 34) j (T 34 j + t) := (f3 34 (by decide)).trans (f2 34 (by decide))
          have e35 : T3 35 = T 35 := (f3 35 (by decide)).trans (f2 35 (by decide))
          have e32 : T2 32 = upd (T 32) x (T 32 x + -t * jC hm b 8 j) := g2
          refine ⟨fun p hp => ?_, fun d hd => ⟨?_, ?_⟩⟩
          · rw [g3, e32, jw_del, jw_d1_p hy c30' hx hy2 (by omega) (by omega), if_neg (by omega)]
            by_cases e : p = y
            · subst e
              rw [jg_us, jg_un (fun z => hxy z.symm), if_neg (by omega), if_pos rfl, i1 p hp, jq_a]
            · rw [jg_un e, if_neg (show ¬ 2 + p = 2 + y by omega)]
              by_cases e2 : p = x
              · subst e2
                rw [jg_us, if_pos rfl, i1 p hp, jq_a, Int32.mul_neg, Int32.neg_mul]
              · rw [jg_un e2, if_neg (by omega), i1 p hp, Int32.add_zero]
          · rw [e34, jw_del, jw_d1_p hy c30' hx hy2 (by omega) (by omega)]
            by_cases e : d = j
            · rw [e, jg_us, (i2 j (by omega)).1, if_pos rfl, jq_a, Int32.mul_one]
            · rw [jg_un e, (i2 d hd).1, if_neg (by omega), if_neg (by omega), if_neg (by omega), Int32.add_zero]
          · rw [e35, (i2 d hd).2, jw_del, jw_d1_p hy c30' hx hy2 (by omega) (by omega), if_neg (by omega), if_neg (by omega), if_neg (by omega), Int32.add_zero]
        · refine jr_aload rfl rfl ?_
          refine jr_getR rfl rfl rfl rfl (Or.inl rfl) ?_
          refine jr_iload rfl rfl ?_
          refine jr_dup2 rfl ?_
          refine jr_iald (len := 12) rfl rfl rfl (by omega) ?_
          refine jr_iload rfl rfl ?_
          refine jr_iadd rfl ?_
          refine jr_iast (len := 12) rfl rfl rfl (by omega) ?_
          refine jr_goto rfl ?_
          refine jr_iinc4 rfl rfl ?_
          refine jr_goto rfl ?_
          have hy : jC hm b 10 j = jw_rem wr (jC hm b 0 0) ∧ ¬ ((fg >>> (nI j &&& 31)) &&& 1 = 1) := ⟨c21, by rw [c26]; decide⟩
          simp only [jPK_35, jPK_r35_0]
          rw [jn_S]
          refine jr_drop 5 (lp_settle0 _ (j + 1) hR0 hR hmo hw0 hfg hl0 (by omega) (fun x h1 h2 h3 => (if_neg h3).trans (hfr x h1 h2 h3)) ?_ k)
          obtain ⟨i1, i2⟩ := hI
          have c30' : jw_paid (jC hm b) j l = 0 := hpd.symm.trans c30
          refine ⟨fun p hp => ?_, fun d hd => ⟨?_, ?_⟩⟩
          · show T 32 p = _
            rw [i1 p hp, jw_del, jw_d1_l hy c30', if_neg (by omega), Int32.add_zero]
          · show T 34 d = _
            rw [(i2 d hd).1, jw_del, jw_d1_l hy c30', if_neg (by omega), Int32.add_zero]
          · show upd (T 35) j (T 35 j + t) d = _
            rw [jw_del, jw_d1_l hy c30']
            by_cases e : d = j
            · rw [e, jg_us, (i2 j (by omega)).2, if_pos rfl, jq_a, Int32.mul_one]
            · rw [jg_un e, (i2 d hd).2, if_neg (by omega), Int32.add_zero]
termination_by jz_nd hm b - j
decreasing_by all_goals omega

set_option maxHeartbeats 800000 in
set_option maxRecDepth 100000 in
theorem ev_give4 {d : Nat} {h : jx_H} {Q : Option jx_V → jx_H → Prop} {S T : Nat → Nat → Int32} {m kc p : Nat} {v : Int32} (hp : p < 5) (k : ∀ T' : Nat → Nat → Int32, (∀ x, x ≠ 32 → T' x = T x) → T' 32 = upd (T 32) p (T 32 p + v) → Q none (jP (jK h 4 T' m) S kc))  : jx_Ev jm_Cal_give (d) 0 0 false 0 [jv_r 1 4, jv_i (nI p), jv_i v] (jP (jK h 4 T m) S kc) Q := by
  show jx_W (jm_Cal_give, d, 0, 0, false, 0, _) Q 0 0 0 [some (jv_r 1 4), some (jv_i (nI p)), some (jv_i v)] [] _
  refine jr_iload rfl rfl ?_
  refine jr_if_lt rfl (fun z => absurd z (nI_pos (by omega))) (fun _ => ?_)
  refine jr_iload rfl rfl ?_
  refine jr_aload rfl rfl ?_
  refine jr_getR rfl rfl rfl rfl (Or.inl rfl) ?_
  refine jr_alen (so := 1) (len := 5) rfl rfl rfl rfl ?_
  refine jr_icmp_ge rfl (fun z => absurd z (nI_ge (a := p) (b := 5) hp (by decide))) (fun _ => ?_)
  refine jr_aload rfl rfl ?_
  refine jr_getR rfl rfl rfl rfl (Or.inl rfl) ?_
  refine jr_iload rfl rfl ?_
  refine jr_dup2 rfl ?_
  refine jr_iald (len := 5) rfl rfl rfl (by omega) ?_
  refine jr_iload rfl rfl ?_
  refine jr_iadd rfl ?_
  refine jr_iast (len := 5) rfl rfl rfl (by omega) ?_
  refine jr_vret rfl rfl (Nat.zero_le _) (Nat.zero_le _) ?_
  simp only [jPK_32, jPK_r32_4]
  exact k _ (fun x hx => if_neg hx) rfl

set_option maxHeartbeats 800000 in
set_option maxRecDepth 100000 in
theorem lp_settle4 {d n0 : Nat} {Q : Option jx_V → jx_H → Prop} {h hm : jx_H} {b r kc : Nat} {S T0 : Nat → Nat → Int32} {l t wr fg : Int32} (T : Nat → Nat → Int32) (j : Nat) (hR0 : jz_R hm b) (hR : jy_R h r hm b) (hmo : ¬ jC hm b 0 0 = 0) (hw0 : T0 1 2 = wr) (hfg : ∀ d, d < 12 → T0 36 d = (fg >>> (nI d &&& 31)) &&& 1) (hl0 : 0 ≤ l) (hj : j ≤ jz_nd hm b) (hfr : ∀ x, x ≠ 32 → x ≠ 34 → x ≠ 35 → T x = T0 x) (hI : (∀ p, p < 5 → T 32 p = T0 32 p + t * jw_del (jC hm b) (jw_rem wr (jC hm b 0 0)) fg l j (2 + p)) ∧ (∀ d, d < 12 → T 34 d = T0 34 d + t * jw_del (jC hm b) (jw_rem wr (jC hm b 0 0)) fg l j (12 + d) ∧ T 35 d = T0 35 d + t * jw_del (jC hm b) (jw_rem wr (jC hm b 0 0)) fg l j (24 + d))) (k : ∀ T' : Nat → Nat → Int32, (∀ x, x ≠ 32 → x ≠ 34 → x ≠ 35 → T' x = T0 x) → (∀ p, p < 5 → T' 32 p = T0 32 p + t * jw_del (jC hm b) (jw_rem wr (jC hm b 0 0)) fg l (jz_nd hm b) (2 + p)) ∧ (∀ d, d < 12 → T' 34 d = T0 34 d + t * jw_del (jC hm b) (jw_rem wr (jC hm b 0 0)) fg l (jz_nd hm b) (12 + d) ∧ T' 35 d = T0 35 d + t * jw_del (jC hm b) (jw_rem wr (jC hm b 0 0)) fg l (jz_nd hm b) (24 + d)) → Q none (jP (jK h 4 T' (r + 1)) S kc))  : jx_W (jm_Cal_settleDues, d + 3, 0, 0, false, 0, n0) Q 0 0 5 [some (jv_r 1 4), some (jv_i l), some (jv_i t), some (jv_i (jw_rem wr (jC hm b 0 0))), some (jv_i (nI j)), none] [] (jP (jK h 4 T (r + 1)) S kc) := by
  have hnd := hR0.2.2.1
  have hnd5 := hnd.2
  have hnp5 := hR0.2.1.2
  refine jr_iload rfl rfl ?_
  refine jr_aload rfl rfl ?_
  refine jr_getM rfl rfl rfl rfl rfl ?_
  refine jr_getI rfl rfl ?_
  rw [show jh_I (jP (jK h 4 T (r + 1)) S kc) 7 r 5 = nI (jz_nd hm b) from hR.2.2.1.trans hnd.1]
  refine jr_icmp_ge rfl (fun c9 => ?_) (fun c9 => ?_)
  · refine jr_vret rfl rfl (Nat.zero_le _) (Nat.zero_le _) ?_
    have hj2 : j = jz_nd hm b := by have := jn_le (show nI (jz_nd hm b) ≤ nI j from c9) (by omega) (by omega); omega
    subst hj2
    exact k T hfr hI
  · have hj1 : j < jz_nd hm b := jn_nle (show ¬ nI (jz_nd hm b) ≤ nI j from c9) (by omega) (by omega)
    have hdue := hR.2.2.2.2.2.1 j hj1
    obtain ⟨x, y, z, u, m, hx, hy2, -, -, -, hx1, hy1, hxy, -⟩ := hR0.2.2.2.2.1 j hj1
    have hpd : jy_pd h (12 * r + j) l = jw_paid (jC hm b) j l := jy_pd_eq hdue
    refine jr_iload rfl rfl ?_
    refine jr_ic rfl ?_
    refine jr_icmp_ge rfl (fun z => absurd z (nI_ge (a := j) (b := 12) (by omega) (by decide))) (fun _ => ?_)
    refine jr_aload rfl rfl ?_
    refine jr_getM rfl rfl rfl rfl rfl ?_
    refine jr_iload rfl rfl ?_
    refine jr_cv1 (mc' := 0) (ms' := 0) rfl jm_Rep_dueAt_n jm_Rep_dueAt_f rfl rfl rfl rfl rfl rfl rfl (Nat.zero_le _) (Nat.zero_le _) ?_
    refine ev_Rep_dueAt (by omega) ?_
    refine jr_ast5 rfl rfl ?_
    refine jr_aload rfl rfl ?_
    refine jr_getI rfl rfl ?_
    rw [show jh_I (jP (jK h 4 T (r + 1)) S kc) 2 (12 * r + j) 4 = jC hm b 10 j from hdue.2.2.2.2.1]
    refine jr_iload rfl rfl ?_
    refine jr_icmp_ne rfl (fun c21 => ?_) (fun c21 => ?_)
    · refine jr_iinc4 rfl rfl ?_
      refine jr_goto rfl ?_
      have hno : ¬ (jC hm b 10 j = jw_rem wr (jC hm b 0 0) ∧ ¬ ((fg >>> (nI j &&& 31)) &&& 1 = 1)) := fun z => c21 z.1
      rw [jn_S]
      refine jr_drop 5 (lp_settle4 T (j + 1) hR0 hR hmo hw0 hfg hl0 (by omega) hfr ?_ k)
      obtain ⟨i1, i2⟩ := hI
      refine ⟨fun p hp => ?_, fun d hd => ⟨?_, ?_⟩⟩
      · rw [i1 p hp, jw_del, jw_d1_n hno, Int32.add_zero]
      · rw [(i2 d hd).1, jw_del, jw_d1_n hno, Int32.add_zero]
      · rw [(i2 d hd).2, jw_del, jw_d1_n hno, Int32.add_zero]
    · refine jr_aload rfl rfl ?_
      refine jr_getR rfl rfl rfl rfl (Or.inl rfl) ?_
      refine jr_iload rfl rfl ?_
      refine jr_zald (len := 12) rfl rfl rfl (by omega) ?_
      rw [show jh_I (jP (jK h 4 T (r + 1)) S kc) 36 4 j = (fg >>> (nI j &&& 31)) &&& 1 from (congrFun (hfr 36 (by decide) (by decide) (by decide)) j).trans (hfg j (by omega))]
      refine jr_if_ne rfl (fun c26 => ?_) (fun c26 => ?_)
      · refine jr_iinc4 rfl rfl ?_
        refine jr_goto rfl ?_
        have hno : ¬ (jC hm b 10 j = jw_rem wr (jC hm b 0 0) ∧ ¬ ((fg >>> (nI j &&& 31)) &&& 1 = 1)) := by
          rintro ⟨-, z⟩
          rw [jy_s_bt (by omega)] at z c26
          split at c26
          · rename_i e; exact z (if_pos e)
          · exact c26 rfl
        rw [jn_S]
        refine jr_drop 5 (lp_settle4 T (j + 1) hR0 hR hmo hw0 hfg hl0 (by omega) hfr ?_ k)
        obtain ⟨i1, i2⟩ := hI
        refine ⟨fun p hp => ?_, fun d hd => ⟨?_, ?_⟩⟩
        · rw [i1 p hp, jw_del, jw_d1_n hno, Int32.add_zero]
        · rw [(i2 d hd).1, jw_del, jw_d1_n hno, Int32.add_zero]
        · rw [(i2 d hd).2, jw_del, jw_d1_n hno, Int32.add_zero]
      · refine jr_aload rfl rfl ?_
        refine jr_iload rfl rfl ?_
        refine jr_cv1 (mc' := 0) (ms' := 0) rfl jm_Due_dayPaid_n jm_Due_dayPaid_f rfl rfl rfl rfl rfl rfl rfl (Nat.zero_le _) (Nat.zero_le _) ?_
        refine ev_Due_dayPaid hl0 ?_
        refine jr_if_ne rfl (fun c30 => ?_) (fun c30 => ?_)
        · refine jr_aload rfl rfl ?_
          refine jr_getR rfl rfl rfl rfl (Or.inl rfl) ?_
          refine jr_iload rfl rfl ?_
          refine jr_dup2 rfl ?_
          refine jr_iald (len := 12) rfl rfl rfl (by omega) ?_
          refine jr_iload rfl rfl ?_
          refine jr_iadd rfl ?_
          refine jr_iast (len := 12) rfl rfl rfl (by omega) ?_
          simp only [jPK_34, jPK_r34_4]
          refine jr_aload rfl rfl ?_
          refine jr_aload rfl rfl ?_
          refine jr_getI rfl rfl ?_
          simp only [jPK_due]
          rw [hdue.1.trans hx]
          refine jr_iload rfl rfl ?_
          refine jr_ineg rfl ?_
          refine jr_aload rfl rfl ?_
          refine jr_getI rfl rfl ?_
          simp only [jPK_due]
          rw [hdue.2.2.1]
          refine jr_imul rfl ?_
          refine jr_cv2 (mc' := 0) (ms' := 0) rfl jm_Cal_give_n jm_Cal_give_f rfl rfl rfl rfl rfl rfl rfl (Nat.zero_le _) (Nat.zero_le _) ?_
          refine ev_give4 (by omega) (fun T2 f2 g2 => ?_)
          refine jr_aload rfl rfl ?_
          refine jr_aload rfl rfl ?_
          refine jr_getI rfl rfl ?_
          simp only [jPK_due]
          rw [hdue.2.1.trans hy2]
          refine jr_iload rfl rfl ?_
          refine jr_aload rfl rfl ?_
          refine jr_getI rfl rfl ?_
          simp only [jPK_due]
          rw [hdue.2.2.1]
          refine jr_imul rfl ?_
          refine jr_cv2 (mc' := 0) (ms' := 0) rfl jm_Cal_give_n jm_Cal_give_f rfl rfl rfl rfl rfl rfl rfl (Nat.zero_le _) (Nat.zero_le _) ?_
          refine ev_give4 (by omega) (fun T3 f3 g3 => ?_)
          refine jr_iinc4 rfl rfl ?_
          refine jr_goto rfl ?_
          have hy : jC hm b 10 j = jw_rem wr (jC hm b 0 0) ∧ ¬ ((fg >>> (nI j &&& 31)) &&& 1 = 1) := ⟨c21, by rw [c26]; decide⟩
          rw [jn_S]
          refine jr_drop 5 (lp_settle4 T3 (j + 1) hR0 hR hmo hw0 hfg hl0 (by omega) (fun x h1 h2 h3 => (f3 x h1).trans ((f2 x h1).trans ((if_neg h2).trans (hfr x h1 h2 h3)))) ?_ k)
          obtain ⟨i1, i2⟩ := hI
          have c30' : ¬ jw_paid (jC hm b) j l = 0 := fun z => c30 (hpd.trans z)
          have e34 : T3 34 = upd (T 34) j (T 34 j + t) := (f3 34 (by decide)).trans (f2 34 (by decide))
          have e35 : T3 35 = T 35 := (f3 35 (by decide)).trans (f2 35 (by decide))
          have e32 : T2 32 = upd (T 32) x (T 32 x + -t * jC hm b 8 j) := g2
          refine ⟨fun p hp => ?_, fun d hd => ⟨?_, ?_⟩⟩
          · rw [g3, e32, jw_del, jw_d1_p hy c30' hx hy2 (by omega) (by omega), if_neg (by omega)]
            by_cases e : p = y
            · subst e
              rw [jg_us, jg_un (fun z => hxy z.symm), if_neg (by omega), if_pos rfl, i1 p hp, jq_a]
            · rw [jg_un e, if_neg (show ¬ 2 + p = 2 + y by omega)]
              by_cases e2 : p = x
              · subst e2
                rw [jg_us, if_pos rfl, i1 p hp, jq_a, Int32.mul_neg, Int32.neg_mul]
              · rw [jg_un e2, if_neg (by omega), i1 p hp, Int32.add_zero]
          · rw [e34, jw_del, jw_d1_p hy c30' hx hy2 (by omega) (by omega)]
            by_cases e : d = j
            · rw [e, jg_us, (i2 j (by omega)).1, if_pos rfl, jq_a, Int32.mul_one]
            · rw [jg_un e, (i2 d hd).1, if_neg (by omega), if_neg (by omega), if_neg (by omega), Int32.add_zero]
          · rw [e35, (i2 d hd).2, jw_del, jw_d1_p hy c30' hx hy2 (by omega) (by omega), if_neg (by omega), if_neg (by omega), if_neg (by omega), Int32.add_zero]
        · refine jr_aload rfl rfl ?_
          refine jr_getR rfl rfl rfl rfl (Or.inl rfl) ?_
          refine jr_iload rfl rfl ?_
          refine jr_dup2 rfl ?_
          refine jr_iald (len := 12) rfl rfl rfl (by omega) ?_
          refine jr_iload rfl rfl ?_
          refine jr_iadd rfl ?_
          refine jr_iast (len := 12) rfl rfl rfl (by omega) ?_
          refine jr_goto rfl ?_
          refine jr_iinc4 rfl rfl ?_
          refine jr_goto rfl ?_
          have hy : jC hm b 10 j = jw_rem wr (jC hm b 0 0) ∧ ¬ ((fg >>> (nI j &&& 31)) &&& 1 = 1) := ⟨c21, by rw [c26]; decide⟩
          simp only [jPK_35, jPK_r35_4]
          rw [jn_S]
          refine jr_drop 5 (lp_settle4 _ (j + 1) hR0 hR hmo hw0 hfg hl0 (by omega) (fun x h1 h2 h3 => (if_neg h3).trans (hfr x h1 h2 h3)) ?_ k)
          obtain ⟨i1, i2⟩ := hI
          have c30' : jw_paid (jC hm b) j l = 0 := hpd.symm.trans c30
          refine ⟨fun p hp => ?_, fun d hd => ⟨?_, ?_⟩⟩
          · show T 32 p = _
            rw [i1 p hp, jw_del, jw_d1_l hy c30', if_neg (by omega), Int32.add_zero]
          · show T 34 d = _
            rw [(i2 d hd).1, jw_del, jw_d1_l hy c30', if_neg (by omega), Int32.add_zero]
          · show upd (T 35) j (T 35 j + t) d = _
            rw [jw_del, jw_d1_l hy c30']
            by_cases e : d = j
            · rw [e, jg_us, (i2 j (by omega)).2, if_pos rfl, jq_a, Int32.mul_one]
            · rw [jg_un e, (i2 d hd).2, if_neg (by omega), Int32.add_zero]
termination_by jz_nd hm b - j
decreasing_by all_goals omega

