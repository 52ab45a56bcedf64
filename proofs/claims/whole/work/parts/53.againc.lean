set_option maxHeartbeats 800000 in
set_option maxRecDepth 100000 in
theorem lp_For_again1 {d n0 : Nat} {Q : Option jx_V → jx_H → Prop} {h hm : jx_H} {b r w p kc : Nat} {a0 : jw_A} {S T : Nat → Nat → Int32} (k : Nat) (hB : jz_B hm b) (hmo : ¬ jC hm b 0 0 = 0) (hR : jy_R h r hm b) (hA : jz_A (jz_np hm b) (jz_nm hm b) a0) (hw : a0 0 = nI w) (hwn : w ≤ 300) (hp : p < jz_nm hm b) (hp1 : (w + p) % jz_nm hm b = 0) (hp2 : ∀ k, k < p → ¬ (w + k) % jz_nm hm b = 0) (hk : k ≤ p) (hT : jy_T (jy_np h r) T (jw_nxs hm b (k) a0)) (hL : ∀ q, q < k → T 31 (w + q) = jw_L hm b a0 q) 
  (kk : ∀ (T' S' : Nat → Nat → Int32) (kc' : Nat), jy_T (jy_np h r) T' (jw_nxs hm b p a0) → (∀ q, q < p → T' 31 (w + q) = jw_L hm b a0 q) → jx_W (jm_For_findAgain, d + 12, 0, 0, false, 0, n0) Q 0 0 17 [some (jv_r 3 0), some (jv_r 1 0), none, none, none, none] [] (jP (jK h 4 T' (r + 1)) S' kc'))  : jx_W (jm_For_findAgain, d + 12, 0, 0, false, 0, n0) Q 0 0 6 [some (jv_r 3 0), some (jv_r 1 0), some (jv_i (nI k)), none, none, none] [] (jP (jK h 4 T (r + 1)) S kc) := by
  have hnm6 := hB.2.2.1.2
  obtain ⟨hA1, hw1⟩ := jz_nxs hB hmo hA hw (n := k) (by omega)
  have hmk := jz_monk hB.2.2 hmo hw1 (by omega)
  have hlt := Nat.mod_lt (w + k) (jz_nm0 hB.2.2 hmo)
  refine jr_iload rfl rfl ?_
  refine jr_ic rfl ?_
  refine jr_icmp_ge rfl (fun z => absurd z (nI_ge (a := k) (b := 6) (by omega) (by decide))) (fun _ => ?_)
  refine jr_aload rfl rfl ?_
  refine jr_getR rfl rfl rfl rfl (Or.inl rfl) ?_
  refine jr_cv0 (mc' := 0) (ms' := 0) rfl jm_Cal_nextMonth_n jm_Cal_nextMonth_f rfl rfl rfl rfl rfl rfl rfl (Nat.zero_le _) (Nat.zero_le _) ?_
  refine ev_Cal_nextMonth (c := 4) (r := r) (hm := jw_h hm (jw_nxs hm b k a0)) (b := b) (jz_Wa hB hA1) ⟨rfl, hT.1, hT.2.1, hT.2.2.1, hT.2.2.2⟩ hR hmo ?_
  rw [show jw_month (jC (jw_h hm (jw_nxs hm b k a0)) b) (jA (jw_h hm (jw_nxs hm b k a0))) = nI ((w + k) % jz_nm hm b) from hmk]
  refine jr_if_le rfl (fun c12 => ?_) (fun c12 => ?_)
  · have hk1 : k = p := by
      rcases Nat.eq_or_lt_of_le hk with e | e
      · exact e
      · exact absurd (show (w + k) % jz_nm hm b = 0 by have := jn_le (b := 0) c12 (by omega) (by decide); omega) (hp2 k e)
    subst hk1
    exact jr_drop 2 (kk T S kc hT hL)
  · have hk1 : k < p := by
      rcases Nat.eq_or_lt_of_le hk with e | e
      · rw [e, hp1] at c12; exact absurd (by decide) c12
      · exact e
    refine jr_aload rfl rfl ?_
    refine jr_cv0 (mc' := 0) (ms' := 0) rfl jm_For_step_n jm_For_step_f rfl rfl rfl rfl rfl rfl rfl (Nat.zero_le _) (Nat.zero_le _) ?_
    show jx_W (jm_For_step, _, _, _, _, _, _) _ 0 0 0 [some _] [] _
    refine jr_aload rfl rfl ?_
    refine jr_getR rfl rfl rfl rfl (Or.inl rfl) ?_
    refine jr_aload rfl rfl ?_
    refine jr_getR rfl rfl rfl rfl (Or.inl rfl) ?_
    refine jr_aload rfl rfl ?_
    refine jr_getR rfl rfl rfl rfl (Or.inl rfl) ?_
    refine jr_cv1 (mc' := 0) (ms' := 0) rfl jm_Poll_resultFor_n jm_Poll_resultFor_f rfl rfl rfl rfl rfl rfl rfl (Nat.zero_le _) (Nat.zero_le _) ?_
    refine ev_Poll_resultFor (c := 4) (r := r) (hm := jw_h hm (jw_nxs hm b (k) a0)) (b := b) (h := jK h 4 T (r + 1)) (jz_Wa hB hA1) ⟨rfl, hT.1, hT.2.1, hT.2.2.1, hT.2.2.2⟩ hR hmo (fun S1 => ?_)
    refine jr_cv1 (mc' := 0) (ms' := 0) rfl jm_Cal_comes_n jm_Cal_comes_f rfl rfl rfl rfl rfl rfl rfl (Nat.zero_le _) (Nat.zero_le _) ?_
    obtain ⟨v, hv, hv2⟩ := jw_counted_in (jz_Wa hB hA1) hmo
    refine ev_comes4 (hm := hm) (b := b) (w := w + (k)) hB.2.2 hR hmo hT (by rw [hv]; exact nI_pos' (by omega)) hw1 (by omega) (fun T1 hT1 hL1 => ?_)
    refine jr_vret rfl rfl (Nat.zero_le _) (Nat.zero_le _) ?_
    refine jr_iinc2 rfl rfl ?_
    refine jr_goto rfl ?_
    rw [jn_S]
    exact lp_For_again1 (T := T1) (k + 1) hB hmo hR hA hw hwn hp hp1 hp2 (by omega) hT1 (fun q hq => by
      rw [hL1]
      by_cases e : q = k
      · rw [e, jg_us]
      · rw [jg_un (by omega)]; exact hL q (by omega)) kk
termination_by p - k
decreasing_by all_goals omega

set_option maxHeartbeats 800000 in
set_option maxRecDepth 100000 in
theorem lp_For_areAlike {d n0 : Nat} {Q : Option jx_V → jx_H → Prop} {h : jx_H} {m kc P U nm p q W : Nat} {S T : Nat → Nat → Int32} {L : Nat → Int32} (i : Nat) (hW : T 1 2 = nI W) (hW2 : W ≤ 511) (hP : P + nm ≤ W) (hU : U + nm ≤ W) (hi : i ≤ nm) (h1 : ∀ i, i < nm → T 31 (P + i) = L (p + i)) (h2 : ∀ i, i < nm → T 31 (U + i) = L (q + i)) (hQ : Q (some (jv_i (jw_al L (nm - i) (p + i) (q + i)))) (jP (jK h 4 T m) S kc))  : jx_W (jm_For_areAlike, d + 2, 0, 0, false, 0, n0) Q 0 0 2 [some (jv_r 3 0), some (jv_i (nI P)), some (jv_i (nI U)), some (jv_i (nI nm)), some (jv_i (nI i))] [] (jP (jK h 4 T m) S kc) := by
  refine jr_iload rfl rfl ?_
  refine jr_iload rfl rfl ?_
  refine jr_icmp_ge rfl (fun c4 => ?_) (fun c4 => ?_)
  · refine jr_ic rfl ?_
    refine jr_zret rfl rfl rfl (Nat.zero_le _) (Nat.zero_le _) ?_
    have hm2 : nm ≤ i := jn_le (show nI nm ≤ nI i from c4) (by omega) (by omega)
    rw [show nm - i = 0 by omega] at hQ
    exact hQ
  · have hi1 : i < nm := jn_nle (show ¬ nI nm ≤ nI i from c4) (by omega) (by omega)
    have hn : nm - i = (nm - (i + 1)) + 1 := by omega
    refine jr_aload rfl rfl ?_
    refine jr_getR rfl rfl rfl rfl (Or.inl rfl) ?_
    refine jr_iload rfl rfl ?_
    refine jr_iload rfl rfl ?_
    refine jr_iadd rfl ?_
    rw [nI_add]
    refine jr_cv1 (mc' := 0) (ms' := 0) rfl jm_Cal_hadMonth_n jm_Cal_hadMonth_f rfl rfl rfl rfl rfl rfl rfl (Nat.zero_le _) (Nat.zero_le _) ?_
    show jx_W (jm_Cal_hadMonth, _, _, _, _, _, _) _ 0 0 0 [some _, some _] [] _
    refine jr_iload rfl rfl ?_
    refine jr_if_lt rfl (fun z => absurd z (nI_pos (by omega))) (fun _ => ?_)
    refine jr_iload rfl rfl ?_
    refine jr_aload rfl rfl ?_
    refine jr_getI rfl rfl ?_
    rw [show jh_I (jP (jK h 4 T m) S kc) 1 4 2 = nI W from hW]
    refine jr_icmp_ge rfl (fun z => absurd z (nI_ge (by omega) (by omega))) (fun _ => ?_)
    refine jr_iload rfl rfl ?_
    refine jr_aload rfl rfl ?_
    refine jr_getR rfl rfl rfl rfl (Or.inl rfl) ?_
    refine jr_alen (so := 1) (len := 512) rfl rfl rfl rfl ?_
    refine jr_icmp_ge rfl (fun z => absurd z (nI_ge (b := 512) (by omega) (by decide))) (fun _ => ?_)
    refine jr_ic rfl ?_
    refine jr_goto rfl ?_
    refine jr_zret rfl rfl rfl (Nat.zero_le _) (Nat.zero_le _) ?_
    refine jr_if_eq rfl (fun z => absurd z (by decide)) (fun _ => ?_)
    refine jr_aload rfl rfl ?_
    refine jr_getR rfl rfl rfl rfl (Or.inl rfl) ?_
    refine jr_iload rfl rfl ?_
    refine jr_iload rfl rfl ?_
    refine jr_iadd rfl ?_
    rw [nI_add]
    refine jr_cv1 (mc' := 0) (ms' := 0) rfl jm_Cal_hadMonth_n jm_Cal_hadMonth_f rfl rfl rfl rfl rfl rfl rfl (Nat.zero_le _) (Nat.zero_le _) ?_
    show jx_W (jm_Cal_hadMonth, _, _, _, _, _, _) _ 0 0 0 [some _, some _] [] _
    refine jr_iload rfl rfl ?_
    refine jr_if_lt rfl (fun z => absurd z (nI_pos (by omega))) (fun _ => ?_)
    refine jr_iload rfl rfl ?_
    refine jr_aload rfl rfl ?_
    refine jr_getI rfl rfl ?_
    rw [show jh_I (jP (jK h 4 T m) S kc) 1 4 2 = nI W from hW]
    refine jr_icmp_ge rfl (fun z => absurd z (nI_ge (by omega) (by omega))) (fun _ => ?_)
    refine jr_iload rfl rfl ?_
    refine jr_aload rfl rfl ?_
    refine jr_getR rfl rfl rfl rfl (Or.inl rfl) ?_
    refine jr_alen (so := 1) (len := 512) rfl rfl rfl rfl ?_
    refine jr_icmp_ge rfl (fun z => absurd z (nI_ge (b := 512) (by omega) (by decide))) (fun _ => ?_)
    refine jr_ic rfl ?_
    refine jr_goto rfl ?_
    refine jr_zret rfl rfl rfl (Nat.zero_le _) (Nat.zero_le _) ?_
    refine jr_if_eq rfl (fun z => absurd z (by decide)) (fun _ => ?_)
    refine jr_aload rfl rfl ?_
    refine jr_getR rfl rfl rfl rfl (Or.inl rfl) ?_
    refine jr_getR rfl rfl rfl rfl (Or.inl rfl) ?_
    refine jr_iload rfl rfl ?_
    refine jr_iload rfl rfl ?_
    refine jr_iadd rfl ?_
    skip
    refine jr_iald (len := 512) rfl rfl (jn_add rfl rfl) (by omega) ?_
    refine jr_aload rfl rfl ?_
    refine jr_getR rfl rfl rfl rfl (Or.inl rfl) ?_
    refine jr_getR rfl rfl rfl rfl (Or.inl rfl) ?_
    refine jr_iload rfl rfl ?_
    refine jr_iload rfl rfl ?_
    refine jr_iadd rfl ?_
    refine jr_iald (len := 512) rfl rfl (jn_add rfl rfl) (by omega) ?_
    rw [show jh_I (jP (jK h 4 T m) S kc) 31 4 (P + i) = L (p + i) from h1 i hi1, show jh_I (jP (jK h 4 T m) S kc) 31 4 (U + i) = L (q + i) from h2 i hi1]
    refine jr_icmp_eq rfl (fun c33 => ?_) (fun c33 => ?_)
    · refine jr_iinc4 rfl rfl ?_
      refine jr_goto rfl ?_
      rw [hn, jw_al, if_pos c33] at hQ
      rw [jn_S]
      exact lp_For_areAlike (i + 1) hW hW2 hP hU (by omega) h1 h2 hQ
    · refine jr_ic rfl ?_
      refine jr_zret rfl rfl rfl (Nat.zero_le _) (Nat.zero_le _) ?_
      rw [hn, jw_al, if_neg c33] at hQ
      exact hQ
termination_by nm - i
decreasing_by all_goals omega

set_option maxHeartbeats 800000 in
set_option maxRecDepth 100000 in
theorem ev_For_areAlike {d : Nat} {h : jx_H} {Q : Option jx_V → jx_H → Prop} {m kc P U nm p q W : Nat} {S T : Nat → Nat → Int32} {L : Nat → Int32} (hW : T 1 2 = nI W) (hW2 : W ≤ 511) (hP : P + nm ≤ W) (hU : U + nm ≤ W) (h1 : ∀ i, i < nm → T 31 (P + i) = L (p + i)) (h2 : ∀ i, i < nm → T 31 (U + i) = L (q + i)) (hQ : Q (some (jv_i (jw_al L nm p q))) (jP (jK h 4 T m) S kc))  : jx_Ev jm_For_areAlike (d + 2) 0 0 false 0 [jv_r 3 0, jv_i (nI P), jv_i (nI U), jv_i (nI nm)] (jP (jK h 4 T m) S kc) Q := by
  show jx_W (jm_For_areAlike, d + 2, 0, 0, false, 0, _) Q 0 0 0 [some (jv_r 3 0), some (jv_i (nI P)), some (jv_i (nI U)), some (jv_i (nI nm)), none] [] _
  refine jr_ic rfl ?_
  refine jr_ist4 rfl rfl ?_
  exact lp_For_areAlike 0 hW hW2 hP hU (Nat.zero_le _) h1 h2 hQ

set_option maxHeartbeats 800000 in
set_option maxRecDepth 100000 in
theorem lp_For_again4 {d n0 : Nat} {Q : Option jx_V → jx_H → Prop} {h hm : jx_H} {b r w p y kc : Nat} {a0 : jw_A} {S T : Nat → Nat → Int32} (x : Nat) (hB : jz_B hm b) (hwn : w ≤ 300) (hp : p ≤ 5) (hy : y ≤ 30) (hx : x ≤ y) (hT0 : T 1 2 = nI (w + (p + (y + 1) * jz_nm hm b))) (hL : ∀ q, q < p + (y + 1) * jz_nm hm b → T 31 (w + q) = jw_L hm b a0 q) (k1 : jw_ax (jw_L hm b a0) p (jz_nm hm b) y (y - x) x = none → ∀ v : Option jx_V, jx_W (jm_For_findAgain, d + 12, 0, 0, false, 0, n0) Q 0 0 69 [some (jv_r 3 0), some (jv_r 1 0), some (jv_i (nI (w + p))), some (jv_i (nI (jz_nm hm b))), some (jv_i (nI y)), v] [] (jP (jK h 4 T (r + 1)) S kc))
  (k2 : ∀ x', jw_ax (jw_L hm b a0) p (jz_nm hm b) y (y - x) x = some x' → ∀ S' : Nat → Nat → Int32, S' 3 10 = nI x' → S' 3 11 = nI y → Q (some (jv_i 1)) (jP (jK h 4 T (r + 1)) S' kc))  : jx_W (jm_For_findAgain, d + 12, 0, 0, false, 0, n0) Q 0 0 42 [some (jv_r 3 0), some (jv_r 1 0), some (jv_i (nI (w + p))), some (jv_i (nI (jz_nm hm b))), some (jv_i (nI y)), some (jv_i (nI x))] [] (jP (jK h 4 T (r + 1)) S kc) := by
  have hnm6 := hB.2.2.1.2
  have hyn : y * jz_nm hm b ≤ 30 * 6 := Nat.mul_le_mul hy hnm6
  have hy1n : (y + 1) * jz_nm hm b = y * jz_nm hm b + jz_nm hm b := by rw [Nat.add_mul]; omega
  refine jr_iload rfl rfl ?_
  refine jr_iload rfl rfl ?_
  refine jr_icmp_ge rfl (fun c44 => ?_) (fun c44 => ?_)
  · have hx2 : y ≤ x := jn_le (show nI y ≤ nI x from c44) (by omega) (by omega)
    exact k1 (by rw [show y - x = 0 by omega]; rfl) _
  · have hx1 : x < y := jn_nle (show ¬ nI y ≤ nI x from c44) (by omega) (by omega)
    have hn : y - x = (y - (x + 1)) + 1 := by omega
    have hxn : (x + 1) * jz_nm hm b ≤ y * jz_nm hm b := Nat.mul_le_mul_right _ hx1
    have hxn2 : (x + 1) * jz_nm hm b = x * jz_nm hm b + jz_nm hm b := by rw [Nat.add_mul]; omega
    refine jr_aload rfl rfl ?_
    refine jr_iload rfl rfl ?_
    refine jr_iload rfl rfl ?_
    refine jr_iload rfl rfl ?_
    refine jr_imul rfl ?_
    refine jr_iadd rfl ?_
    refine jr_iload rfl rfl ?_
    refine jr_iload rfl rfl ?_
    refine jr_iload rfl rfl ?_
    refine jr_imul rfl ?_
    refine jr_iadd rfl ?_
    refine jr_iload rfl rfl ?_
    rw [show nI (w + p) + nI x * nI (jz_nm hm b) = nI (w + p + x * jz_nm hm b) from by rw [pk_mul, nI_add], show nI (w + p) + nI y * nI (jz_nm hm b) = nI (w + p + y * jz_nm hm b) from by rw [pk_mul, nI_add]]
    refine jr_cv3 (mc' := 0) (ms' := 0) rfl jm_For_areAlike_n jm_For_areAlike_f rfl rfl rfl rfl rfl rfl rfl (Nat.zero_le _) (Nat.zero_le _) ?_
    refine ev_For_areAlike (L := jw_L hm b a0) (p := p + x * jz_nm hm b) (q := p + y * jz_nm hm b) hT0 (by omega) (by omega) (by omega) (fun i hi => by rw [show w + p + x * jz_nm hm b + i = w + (p + x * jz_nm hm b + i) by omega]; exact hL _ (by omega)) (fun i hi => by rw [show w + p + y * jz_nm hm b + i = w + (p + y * jz_nm hm b + i) by omega]; exact hL _ (by omega)) ?_
    refine jr_if_eq rfl (fun c58 => ?_) (fun c58 => ?_)
    · refine jr_iinc5 rfl rfl ?_
      refine jr_goto rfl ?_
      rw [jn_S]
      refine lp_For_again4 (x + 1) hB hwn hp hy (by omega) hT0 hL (fun e => k1 ?_) (fun x' e => k2 x' ?_)
      · rw [hn, jw_ax, if_pos c58]; exact e
      · rw [hn, jw_ax, if_pos c58]; exact e
    · refine jr_aload rfl rfl ?_
      refine jr_iload rfl rfl ?_
      refine jr_putI rfl rfl ?_
      refine jr_aload rfl rfl ?_
      refine jr_iload rfl rfl ?_
      refine jr_putI rfl rfl ?_
      refine jr_ic rfl ?_
      refine jr_zret rfl rfl rfl (Nat.zero_le _) (Nat.zero_le _) ?_
      simp only [jP_3, jP_r3]
      exact k2 x (by rw [hn, jw_ax, if_neg c58]) _ rfl rfl
termination_by y - x
decreasing_by all_goals omega

set_option maxHeartbeats 800000 in
set_option maxRecDepth 100000 in
theorem lp_For_again3 {d n0 : Nat} {Q : Option jx_V → jx_H → Prop} {h hm : jx_H} {b r w p y kc : Nat} {a0 : jw_A} {S T : Nat → Nat → Int32} (m : Nat) (hB : jz_B hm b) (hmo : ¬ jC hm b 0 0 = 0) (hR : jy_R h r hm b) (hA : jz_A (jz_np hm b) (jz_nm hm b) a0) (hw : a0 0 = nI w) (hwn : w ≤ 300) (hp : p ≤ 5) (hy : y ≤ 30) (hmm : m ≤ jz_nm hm b) (hT : jy_T (jy_np h r) T (jw_nxs hm b ((p + y * jz_nm hm b + m)) a0)) (hL : ∀ q, q < (p + y * jz_nm hm b + m) → T 31 (w + q) = jw_L hm b a0 q) 
  (kk : ∀ (T' S' : Nat → Nat → Int32) (kc' : Nat), jy_T (jy_np h r) T' (jw_nxs hm b (p + (y + 1) * jz_nm hm b) a0) → (∀ q, q < p + (y + 1) * jz_nm hm b → T' 31 (w + q) = jw_L hm b a0 q) → ∀ v : Option jx_V, jx_W (jm_For_findAgain, d + 12, 0, 0, false, 0, n0) Q 0 0 40 [some (jv_r 3 0), some (jv_r 1 0), some (jv_i (nI (w + p))), some (jv_i (nI (jz_nm hm b))), some (jv_i (nI y)), v] [] (jP (jK h 4 T' (r + 1)) S' kc'))  : jx_W (jm_For_findAgain, d + 12, 0, 0, false, 0, n0) Q 0 0 33 [some (jv_r 3 0), some (jv_r 1 0), some (jv_i (nI (w + p))), some (jv_i (nI (jz_nm hm b))), some (jv_i (nI y)), some (jv_i (nI m))] [] (jP (jK h 4 T (r + 1)) S kc) := by
  have hnm6 := hB.2.2.1.2
  have hyn : y * jz_nm hm b ≤ 30 * 6 := Nat.mul_le_mul hy hnm6
  have hy1n : (y + 1) * jz_nm hm b = y * jz_nm hm b + jz_nm hm b := by rw [Nat.add_mul]; omega
  obtain ⟨hA1, hw1⟩ := jz_nxs hB hmo hA hw (n := p + y * jz_nm hm b + m) (by omega)
  refine jr_iload rfl rfl ?_
  refine jr_iload rfl rfl ?_
  refine jr_icmp_ge rfl (fun c35 => ?_) (fun c35 => ?_)
  · have hm2 : m = jz_nm hm b := by have := jn_le (show nI (jz_nm hm b) ≤ nI m from c35) (by omega) (by omega); omega
    have e : p + (y + 1) * jz_nm hm b = p + y * jz_nm hm b + m := by omega
    rw [e] at kk
    exact kk T S kc hT hL _
  · have hm1 : m < jz_nm hm b := jn_nle (show ¬ nI (jz_nm hm b) ≤ nI m from c35) (by omega) (by omega)
    refine jr_aload rfl rfl ?_
    refine jr_cv0 (mc' := 0) (ms' := 0) rfl jm_For_step_n jm_For_step_f rfl rfl rfl rfl rfl rfl rfl (Nat.zero_le _) (Nat.zero_le _) ?_
    show jx_W (jm_For_step, _, _, _, _, _, _) _ 0 0 0 [some _] [] _
    refine jr_aload rfl rfl ?_
    refine jr_getR rfl rfl rfl rfl (Or.inl rfl) ?_
    refine jr_aload rfl rfl ?_
    refine jr_getR rfl rfl rfl rfl (Or.inl rfl) ?_
    refine jr_aload rfl rfl ?_
    refine jr_getR rfl rfl rfl rfl (Or.inl rfl) ?_
    refine jr_cv1 (mc' := 0) (ms' := 0) rfl jm_Poll_resultFor_n jm_Poll_resultFor_f rfl rfl rfl rfl rfl rfl rfl (Nat.zero_le _) (Nat.zero_le _) ?_
    refine ev_Poll_resultFor (c := 4) (r := r) (hm := jw_h hm (jw_nxs hm b (p + y * jz_nm hm b + m) a0)) (b := b) (h := jK h 4 T (r + 1)) (jz_Wa hB hA1) ⟨rfl, hT.1, hT.2.1, hT.2.2.1, hT.2.2.2⟩ hR hmo (fun S1 => ?_)
    refine jr_cv1 (mc' := 0) (ms' := 0) rfl jm_Cal_comes_n jm_Cal_comes_f rfl rfl rfl rfl rfl rfl rfl (Nat.zero_le _) (Nat.zero_le _) ?_
    obtain ⟨v, hv, hv2⟩ := jw_counted_in (jz_Wa hB hA1) hmo
    refine ev_comes4 (hm := hm) (b := b) (w := w + (p + y * jz_nm hm b + m)) hB.2.2 hR hmo hT (by rw [hv]; exact nI_pos' (by omega)) hw1 (by omega) (fun T1 hT1 hL1 => ?_)
    refine jr_vret rfl rfl (Nat.zero_le _) (Nat.zero_le _) ?_
    refine jr_iinc5 rfl rfl ?_
    refine jr_goto rfl ?_
    rw [jn_S]
    exact lp_For_again3 (T := T1) (m + 1) hB hmo hR hA hw hwn hp hy (by omega) hT1 (fun q hq => by
      rw [hL1]
      by_cases e : q = p + y * jz_nm hm b + m
      · rw [e, jg_us]
      · rw [jg_un (by omega)]; exact hL q (by omega)) kk
termination_by jz_nm hm b - m
decreasing_by all_goals omega

set_option maxHeartbeats 800000 in
set_option maxRecDepth 100000 in
theorem lp_For_again2 {d n0 : Nat} {Q : Option jx_V → jx_H → Prop} {h hm : jx_H} {b r w p kc : Nat} {a0 : jw_A} {S T : Nat → Nat → Int32} (y : Nat) (hB : jz_B hm b) (hmo : ¬ jC hm b 0 0 = 0) (hR : jy_R h r hm b) (hA : jz_A (jz_np hm b) (jz_nm hm b) a0) (hw : a0 0 = nI w) (hwn : w ≤ 300) (hp : p ≤ 5) (hy : y ≤ 31) (hT : jy_T (jy_np h r) T (jw_nxs hm b ((p + y * jz_nm hm b)) a0)) (hL : ∀ q, q < (p + y * jz_nm hm b) → T 31 (w + q) = jw_L hm b a0 q) 
  (k1 : jw_ay (jw_L hm b a0) p (jz_nm hm b) (31 - y) y = none → ∀ (T' S' : Nat → Nat → Int32) (kc' : Nat), Q (some (jv_i 0)) (jP (jK h 4 T' (r + 1)) S' kc'))
  (k2 : ∀ x' y', jw_ay (jw_L hm b a0) p (jz_nm hm b) (31 - y) y = some (x', y') → ∀ (T' S' : Nat → Nat → Int32) (kc' : Nat), S' 3 10 = nI x' → S' 3 11 = nI y' → Q (some (jv_i 1)) (jP (jK h 4 T' (r + 1)) S' kc'))  : jx_W (jm_For_findAgain, d + 12, 0, 0, false, 0, n0) Q 0 0 28 [some (jv_r 3 0), some (jv_r 1 0), some (jv_i (nI (w + p))), some (jv_i (nI (jz_nm hm b))), some (jv_i (nI y)), none] [] (jP (jK h 4 T (r + 1)) S kc) := by
  refine jr_iload rfl rfl ?_
  refine jr_ic rfl ?_
  refine jr_icmp_gt rfl (fun c30 => ?_) (fun c30 => ?_)
  · refine jr_ic rfl ?_
    refine jr_zret rfl rfl rfl (Nat.zero_le _) (Nat.zero_le _) ?_
    have hx1 : 30 < y := jn_lt (show nI 30 < nI y from c30) (by omega) (by omega)
    exact k1 (by rw [show 31 - y = 0 by omega]; rfl) T S kc
  · have hl1 : y ≤ 30 := jn_nlt (show ¬ nI 30 < nI y from c30) (by omega) (by omega)
    have hn : 31 - y = (31 - (y + 1)) + 1 := by omega
    refine jr_ic rfl ?_
    refine jr_ist5 rfl rfl ?_
    refine lp_For_again3 0 hB hmo hR hA hw hwn hp hl1 (Nat.zero_le _) hT hL (fun T2 S2 kc2 hT2 hL2 v2 => ?_)
    refine jr_ic rfl ?_
    refine jr_ist5 rfl rfl ?_
    refine lp_For_again4 0 hB hwn hp hl1 (Nat.zero_le _) (hT2.1.trans (jz_nxs hB hmo hA hw (by have := hB.2.2.1.2; have : (y + 1) * jz_nm hm b ≤ 31 * 6 := Nat.mul_le_mul (by omega) this; omega)).2) hL2 (fun e1 v3 => ?_) (fun x' e1 => ?_)
    · refine jr_iinc4 rfl rfl ?_
      refine jr_goto rfl ?_
      rw [jn_S]
      refine jr_drop 5 (lp_For_again2 (T := T2) (y + 1) hB hmo hR hA hw hwn hp (by omega) hT2 hL2 (fun e2 => k1 ?_) (fun x' y' e2 => k2 x' y' ?_))
      · rw [hn, jw_ay, show jw_ax (jw_L hm b a0) p (jz_nm hm b) y y 0 = none from e1]; exact e2
      · rw [hn, jw_ay, show jw_ax (jw_L hm b a0) p (jz_nm hm b) y y 0 = none from e1]; exact e2
    · intro S3 h10 h11
      exact k2 x' y (by rw [hn, jw_ay, show jw_ax (jw_L hm b a0) p (jz_nm hm b) y y 0 = some x' from e1]) T2 S3 kc2 h10 h11
termination_by 31 - y
decreasing_by all_goals omega

set_option maxHeartbeats 800000 in
set_option maxRecDepth 100000 in
theorem ev_For_again {d : Nat} {h : jx_H} {Q : Option jx_V → jx_H → Prop} {hm : jx_H} {b r w p : Nat} (hw0 : jz_W hm b) (hmo : ¬ jC hm b 0 0 = 0) (hR : jy_R h r hm b) (hA0 : jy_A h 0 r (jA hm)) (hw : jA hm 0 = nI w) (hwn : w ≤ 300) (hp : p < jz_nm hm b) (hp1 : (w + p) % jz_nm hm b = 0) (hp2 : ∀ k, k < p → ¬ (w + k) % jz_nm hm b = 0) 
  (k1 : jw_ay (jw_L hm b (jA hm)) p (jz_nm hm b) 31 0 = none → ∀ (T' S' : Nat → Nat → Int32) (kc' : Nat), Q (some (jv_i 0)) (jP (jK h 4 T' (r + 1)) S' kc'))
  (k2 : ∀ x' y', jw_ay (jw_L hm b (jA hm)) p (jz_nm hm b) 31 0 = some (x', y') → ∀ (T' S' : Nat → Nat → Int32) (kc' : Nat), S' 3 10 = nI x' → S' 3 11 = nI y' → Q (some (jv_i 1)) (jP (jK h 4 T' (r + 1)) S' kc'))  : jx_Ev jm_For_findAgain (d + 12) 0 0 false 0 [jv_r 3 0, jv_r 1 0] h Q := by
  show jx_W (jm_For_findAgain, d + 12, 0, 0, false, 0, _) Q 0 0 0 [some (jv_r 3 0), some (jv_r 1 0), none, none, none, none] [] _
  have hB := jz_W_B hw0
  have hnm := hB.2.2.1
  refine jr_aload rfl rfl ?_
  refine jr_getR rfl rfl rfl rfl (Or.inl rfl) ?_
  refine jr_aload rfl rfl ?_
  refine jr_cv1 (mc' := 0) (ms' := 0) rfl jm_Cal_copyOf_n jm_Cal_copyOf_f rfl rfl rfl rfl rfl rfl rfl (Nat.zero_le _) (Nat.zero_le _) ?_
  refine eB_copy40 hA0 hw (by omega) (fun T1 hT1 hL1 => ?_)
  refine jr_ic rfl ?_
  refine jr_ist2 rfl rfl ?_
  refine lp_For_again1 (T := T1) 0 hB hmo hR hw0.2.2.2 hw hwn hp hp1 hp2 (Nat.zero_le _) hT1 (fun q hq => absurd hq (by omega)) (fun T2 S2 kc2 hT2 hL2 => ?_)
  obtain ⟨-, hw1⟩ := jz_nxs hB hmo hw0.2.2.2 hw (n := p) (by omega)
  refine jr_aload rfl rfl ?_
  refine jr_getR rfl rfl rfl rfl (Or.inl rfl) ?_
  refine jr_getI rfl rfl ?_
  rw [show jh_I (jP (jK h 4 T2 (r + 1)) S2 kc2) 1 4 2 = nI (w + p) from hT2.1.trans hw1]
  refine jr_ist2 rfl rfl ?_
  refine jr_aload rfl rfl ?_
  refine jr_getR rfl rfl rfl rfl (Or.inl rfl) ?_
  refine jr_getM rfl rfl rfl rfl rfl ?_
  refine jr_getI rfl rfl ?_
  rw [show jh_I (jP (jK h 4 T2 (r + 1)) S2 kc2) 7 r 0 = nI (jz_nm hm b) from hR.1.trans hnm.1]
  refine jr_ist3 rfl rfl ?_
  refine jr_ic rfl ?_
  refine jr_ist4 rfl rfl ?_
  have hT2' : jy_T (jy_np h r) T2 (jw_nxs hm b (p + 0 * jz_nm hm b) (jA hm)) := by rw [Nat.zero_mul]; exact hT2
  have hL2' : ∀ q, q < p + 0 * jz_nm hm b → T2 31 (w + q) = jw_L hm b (jA hm) q := by rw [Nat.zero_mul]; exact hL2
  exact lp_For_again2 (T := T2) 0 hB hmo hR hw0.2.2.2 hw hwn (by omega) (by omega) hT2' hL2' k1 k2

set_option maxHeartbeats 800000 in
set_option maxRecDepth 100000 in
theorem pd_again_0 {d : Nat} {hc hm : jx_H} (hRel : jz_Rel hc hm) : jx_Ev jm_JV_again (d + 40) 0 0 false 0 [jv_r 10 0, jv_i 0] hc (fun r hc' => jx_Ev jm_MD_again (d + 40) 0 0 false 1 [jv_r 11 0, jv_i 0] hm (fun r' hm' => r = r' ∧ jz_Rel hc' hm')) := by
  have hRel0 := hRel
  obtain ⟨b, r, ⟨hw, hG, hr2, hto, hsp, hR, hA, hL⟩, hTa, hFa, hLy, hTi, hLe, hBo, hAc, hWo⟩ := hRel
  have hb2 := hw.2.1
  have hnm := hw.2.2.1.1
  have hnm5 := hnm.2
  have km1 : (jh_I hc 7 r 0).toInt = (jz_nm hm b : Int) := by rw [hR.1]; exact (congrArg Int32.toInt hnm.1).trans (nI_toInt (by omega))
  have km2 : (jh_I hm 66 0 b).toInt = (jz_nm hm b : Int) := (congrArg Int32.toInt hnm.1).trans (nI_toInt (by omega))
  have km3 : (jh_I hm 66 0 b - 1).toInt = (jz_nm hm b : Int) - 1 := by rw [Int32.toInt_sub, km2, show (1 : Int32).toInt = 1 from rfl]; exact jn_sm (by omega) (by omega)
  obtain ⟨-, w, g1, g2, g3, g4⟩ := id hG
  rcases Classical.em (jC hm b 0 0 = 0) with hmo | hmo
  · have hn0 : (jz_nm hm b : Int) = 0 := by rw [← km2]; exact congrArg Int32.toInt hmo
    show jx_W (jm_JV_again, d + 40, 0, 0, false, 0, _) _ 0 0 0 [some (jv_r 10 0), some (jv_i 0)] [] _
    refine jr_aload rfl rfl ?_
    refine jr_getM rfl rfl rfl rfl hto ?_
    refine jr_getI rfl rfl ?_
    refine jr_if_eq rfl (fun c3 => ?_) (fun c3 => ?_)
    · refine jr_ic rfl ?_
      refine jr_iret rfl rfl (Nat.zero_le _) (Nat.zero_le _) ?_
      show jx_W (jm_MD_again, d + 40, 0, 0, false, 1, _) _ 0 0 0 [some _, some _, none] [] _
      refine jr_iload rfl rfl ?_
      refine jr_ic rfl ?_
      refine jr_ic rfl ?_
      refine jr_cs3 (mc' := 0) (ms' := 0) rfl jm_MD_isIn_n jm_MD_isIn_f rfl rfl rfl rfl rfl (Nat.zero_le _) (Nat.zero_le _) ?_
      show jx_W (jm_MD_isIn, _, _, _, _, _, _) _ 0 0 0 [some _, some _, some _] [] _
      refine jr_iload rfl rfl ?_
      refine jr_iload rfl rfl ?_
      refine jr_icmp_lt rfl (fun z => absurd z (by decide)) (fun _ => ?_)
      refine jr_iload rfl rfl ?_
      refine jr_iload rfl rfl ?_
      refine jr_icmp_gt rfl (fun z => absurd z (by decide)) (fun _ => ?_)
      refine jr_ic rfl ?_
      refine jr_goto rfl ?_
      refine jr_zret rfl rfl rfl (Nat.zero_le _) (Nat.zero_le _) ?_
      refine jr_if_eq rfl (fun z => absurd z (by decide)) (fun _ => ?_)
      refine jr_aload rfl rfl ?_
      refine jr_cv0 (mc' := 0) (ms' := 0) rfl jm_MD_hasMonths_n jm_MD_hasMonths_f rfl rfl rfl rfl rfl rfl rfl (Nat.zero_le _) (Nat.zero_le _) ?_
      show jx_W (jm_MD_hasMonths, _, _, _, _, _, _) _ 0 0 0 [some _] [] _
      refine jr_aload rfl rfl ?_
      refine jr_getR rfl rfl rfl rfl (Or.inl rfl) ?_
      refine jr_aload rfl rfl ?_
      refine jr_getI rfl rfl ?_
      refine jr_iald (len := 2) rfl rfl hw.1 (by omega) ?_
      refine jr_if_le rfl (fun m5MDhasMonths => ?_) (fun m5MDhasMonths => ?_)
      · refine jr_ic rfl ?_
        refine jr_zret rfl rfl rfl (Nat.zero_le _) (Nat.zero_le _) ?_
        refine jr_if_ne rfl (fun z => absurd (by decide) z) (fun _ => ?_)
        refine jr_ic rfl ?_
        refine jr_iret rfl rfl (Nat.zero_le _) (Nat.zero_le _) ?_
        first
          | exact ⟨rfl, hRel0⟩
          | (exfalso; omega)
          | (exfalso; simp (disch := omega) only [Int32.lt_iff_toInt_lt, Int32.le_iff_toInt_le, ← Int32.toInt_inj, Int32.reduceToInt, nI_toInt] at c3 m5MDhasMonths; done)
          | (exfalso; simp (disch := omega) only [Int32.lt_iff_toInt_lt, Int32.le_iff_toInt_le, ← Int32.toInt_inj, Int32.reduceToInt, nI_toInt] at c3 m5MDhasMonths; omega)
      · refine jr_ic rfl ?_
        refine jr_goto rfl ?_
        refine jr_zret rfl rfl rfl (Nat.zero_le _) (Nat.zero_le _) ?_
        refine jr_if_ne rfl (fun _ => ?_) (fun z => absurd z (by decide))
        refine jr_aload rfl rfl ?_
        refine jr_cv0 (mc' := 0) (ms' := 0) rfl jm_MD_keepHead_n jm_MD_keepHead_f rfl rfl rfl rfl rfl rfl rfl (Nat.zero_le _) (Nat.zero_le _) ?_
        first
          | (exfalso; omega)
          | (exfalso; simp (disch := omega) only [Int32.lt_iff_toInt_lt, Int32.le_iff_toInt_le, ← Int32.toInt_inj, Int32.reduceToInt, nI_toInt] at c3 m5MDhasMonths; done)
          | (exfalso; simp (disch := omega) only [Int32.lt_iff_toInt_lt, Int32.le_iff_toInt_le, ← Int32.toInt_inj, Int32.reduceToInt, nI_toInt] at c3 m5MDhasMonths; omega)
    · refine jr_iload rfl rfl ?_
      refine jr_if_lt rfl (fun z => absurd z (by decide)) (fun _ => ?_)
      refine jr_iload rfl rfl ?_
      refine jr_ic rfl ?_
      refine jr_icmp_gt rfl (fun z => absurd z (by decide)) (fun _ => ?_)
      refine jr_aload rfl rfl ?_
      refine jr_getR rfl rfl rfl rfl (Or.inl rfl) ?_
      refine jr_aload rfl rfl ?_
      refine jr_getR rfl rfl rfl rfl (Or.inl rfl) ?_
      refine jr_cv1 (mc' := 0) (ms' := 0) rfl jm_For_findAgain_n jm_For_findAgain_f rfl rfl rfl rfl rfl rfl rfl (Nat.zero_le _) (Nat.zero_le _) ?_
      first
        | (exfalso; omega)
        | (exfalso; simp (disch := omega) only [Int32.lt_iff_toInt_lt, Int32.le_iff_toInt_le, ← Int32.toInt_inj, Int32.reduceToInt, nI_toInt] at c3; done)
        | (exfalso; simp (disch := omega) only [Int32.lt_iff_toInt_lt, Int32.le_iff_toInt_le, ← Int32.toInt_inj, Int32.reduceToInt, nI_toInt] at c3; omega)
  · have hn1 : 0 < jz_nm hm b := by
      rcases Nat.eq_zero_or_pos (jz_nm hm b) with e | e
      · rw [e] at hnm; exact absurd hnm.1 hmo
      · exact e
    obtain ⟨p, hp, hp1, hp2⟩ := jz_pre w hn1 hnm5
    rcases hag : jw_ay (jw_L hm b (jA hm)) p (jz_nm hm b) 31 0 with _ | ⟨x2, y2⟩
    · show jx_W (jm_JV_again, d + 40, 0, 0, false, 0, _) _ 0 0 0 [some (jv_r 10 0), some (jv_i 0)] [] _
      refine jr_aload rfl rfl ?_
      refine jr_getM rfl rfl rfl rfl hto ?_
      refine jr_getI rfl rfl ?_
      refine jr_if_eq rfl (fun c3 => ?_) (fun c3 => ?_)
      · refine jr_ic rfl ?_
        refine jr_iret rfl rfl (Nat.zero_le _) (Nat.zero_le _) ?_
        show jx_W (jm_MD_again, d + 40, 0, 0, false, 1, _) _ 0 0 0 [some _, some _, none] [] _
        refine jr_iload rfl rfl ?_
        refine jr_ic rfl ?_
        refine jr_ic rfl ?_
        refine jr_cs3 (mc' := 0) (ms' := 0) rfl jm_MD_isIn_n jm_MD_isIn_f rfl rfl rfl rfl rfl (Nat.zero_le _) (Nat.zero_le _) ?_
        show jx_W (jm_MD_isIn, _, _, _, _, _, _) _ 0 0 0 [some _, some _, some _] [] _
        refine jr_iload rfl rfl ?_
        refine jr_iload rfl rfl ?_
        refine jr_icmp_lt rfl (fun z => absurd z (by decide)) (fun _ => ?_)
        refine jr_iload rfl rfl ?_
        refine jr_iload rfl rfl ?_
        refine jr_icmp_gt rfl (fun z => absurd z (by decide)) (fun _ => ?_)
        refine jr_ic rfl ?_
        refine jr_goto rfl ?_
        refine jr_zret rfl rfl rfl (Nat.zero_le _) (Nat.zero_le _) ?_
        refine jr_if_eq rfl (fun z => absurd z (by decide)) (fun _ => ?_)
        refine jr_aload rfl rfl ?_
        refine jr_cv0 (mc' := 0) (ms' := 0) rfl jm_MD_hasMonths_n jm_MD_hasMonths_f rfl rfl rfl rfl rfl rfl rfl (Nat.zero_le _) (Nat.zero_le _) ?_
        show jx_W (jm_MD_hasMonths, _, _, _, _, _, _) _ 0 0 0 [some _] [] _
        refine jr_aload rfl rfl ?_
        refine jr_getR rfl rfl rfl rfl (Or.inl rfl) ?_
        refine jr_aload rfl rfl ?_
        refine jr_getI rfl rfl ?_
        refine jr_iald (len := 2) rfl rfl hw.1 (by omega) ?_
        refine jr_if_le rfl (fun m5MDhasMonths => ?_) (fun m5MDhasMonths => ?_)
        · refine jr_ic rfl ?_
          refine jr_zret rfl rfl rfl (Nat.zero_le _) (Nat.zero_le _) ?_
          refine jr_if_ne rfl (fun z => absurd (by decide) z) (fun _ => ?_)
          refine jr_ic rfl ?_
          refine jr_iret rfl rfl (Nat.zero_le _) (Nat.zero_le _) ?_
          first
            | exact ⟨congrArg (fun z => some (jv_i z)) (show (-1 : Int32) = jw_ag 0 (jw_ay (jw_L hm b (jA hm)) p (jz_nm hm b) 31 0) by rw [hag]; rfl), (jz_Rel_s hRel0 hS5)⟩
            | (first
                | (exfalso; omega)
                | (exfalso; simp (disch := omega) only [Int32.lt_iff_toInt_lt, Int32.le_iff_toInt_le, ← Int32.toInt_inj, Int32.reduceToInt, nI_toInt] at c3 m5MDhasMonths; done)
                | (exfalso; simp (disch := omega) only [Int32.lt_iff_toInt_lt, Int32.le_iff_toInt_le, ← Int32.toInt_inj, Int32.reduceToInt, nI_toInt] at c3 m5MDhasMonths; omega))
        · refine jr_ic rfl ?_
          refine jr_goto rfl ?_
          refine jr_zret rfl rfl rfl (Nat.zero_le _) (Nat.zero_le _) ?_
          refine jr_if_ne rfl (fun _ => ?_) (fun z => absurd z (by decide))
          refine jr_aload rfl rfl ?_
          refine jr_cv0 (mc' := 0) (ms' := 0) rfl jm_MD_keepHead_n jm_MD_keepHead_f rfl rfl rfl rfl rfl rfl rfl (Nat.zero_le _) (Nat.zero_le _) ?_
          refine eB_keepHead (fun S4 hS4 hH1 => ?_)
          refine jr_aload rfl rfl ?_
          refine jr_iload rfl rfl ?_
          refine jr_cv1 (mc' := 0) (ms' := 0) rfl jm_MD_againBy_n jm_MD_againBy_f rfl rfl rfl rfl rfl rfl rfl (Nat.zero_le _) (Nat.zero_le _) ?_
          refine eB_againBy hw hS4 hmo g1 g2 hp hp1 hp2 (fun S5 k5 hS5 hf2 => ?_)
          refine jr_ist2 rfl rfl ?_
          refine jr_aload rfl rfl ?_
          refine jr_cv0 (mc' := 0) (ms' := 0) rfl jm_MD_bringHead_n jm_MD_bringHead_f rfl rfl rfl rfl rfl rfl rfl (Nat.zero_le _) (Nat.zero_le _) ?_
          refine eS_bringHead (h := hm) (fun q hq => by rw [hf2]; exact hH1 q hq) (fun q hq => jw_nxs_hi hw.2.2.1 (Or.inr (by omega))) ?_
          refine jr_iload rfl rfl ?_
          refine jr_iret rfl rfl (Nat.zero_le _) (Nat.zero_le _) ?_
          first
            | exact ⟨congrArg (fun z => some (jv_i z)) (show (-1 : Int32) = jw_ag 0 (jw_ay (jw_L hm b (jA hm)) p (jz_nm hm b) 31 0) by rw [hag]; rfl), (jz_Rel_s hRel0 hS5)⟩
            | (first
                | (exfalso; omega)
                | (exfalso; simp (disch := omega) only [Int32.lt_iff_toInt_lt, Int32.le_iff_toInt_le, ← Int32.toInt_inj, Int32.reduceToInt, nI_toInt] at c3 m5MDhasMonths; done)
                | (exfalso; simp (disch := omega) only [Int32.lt_iff_toInt_lt, Int32.le_iff_toInt_le, ← Int32.toInt_inj, Int32.reduceToInt, nI_toInt] at c3 m5MDhasMonths; omega))
      · refine jr_iload rfl rfl ?_
        refine jr_if_lt rfl (fun z => absurd z (by decide)) (fun _ => ?_)
        refine jr_iload rfl rfl ?_
        refine jr_ic rfl ?_
        refine jr_icmp_gt rfl (fun z => absurd z (by decide)) (fun _ => ?_)
        refine jr_aload rfl rfl ?_
        refine jr_getR rfl rfl rfl rfl (Or.inl rfl) ?_
        refine jr_aload rfl rfl ?_
        refine jr_getR rfl rfl rfl rfl (Or.inl rfl) ?_
        refine jr_cv1 (mc' := 0) (ms' := 0) rfl jm_For_findAgain_n jm_For_findAgain_f rfl rfl rfl rfl rfl rfl rfl (Nat.zero_le _) (Nat.zero_le _) ?_
        refine ev_For_again hw hmo hR hA g1 g2 hp hp1 hp2 (fun q T1 S1 kc1 => ?_) (fun x1 y1 q T1 S1 kc1 h10 h11 => absurd (q.symm.trans hag) (by intro e; cases e))
        refine jr_if_ne rfl (fun z => absurd (by decide) z) (fun _ => ?_)
        refine jr_ic rfl ?_
        refine jr_iret rfl rfl (Nat.zero_le _) (Nat.zero_le _) ?_
        show jx_W (jm_MD_again, d + 40, 0, 0, false, 1, _) _ 0 0 0 [some _, some _, none] [] _
        refine jr_iload rfl rfl ?_
        refine jr_ic rfl ?_
        refine jr_ic rfl ?_
        refine jr_cs3 (mc' := 0) (ms' := 0) rfl jm_MD_isIn_n jm_MD_isIn_f rfl rfl rfl rfl rfl (Nat.zero_le _) (Nat.zero_le _) ?_
        show jx_W (jm_MD_isIn, _, _, _, _, _, _) _ 0 0 0 [some _, some _, some _] [] _
        refine jr_iload rfl rfl ?_
        refine jr_iload rfl rfl ?_
        refine jr_icmp_lt rfl (fun z => absurd z (by decide)) (fun _ => ?_)
        refine jr_iload rfl rfl ?_
        refine jr_iload rfl rfl ?_
        refine jr_icmp_gt rfl (fun z => absurd z (by decide)) (fun _ => ?_)
        refine jr_ic rfl ?_
        refine jr_goto rfl ?_
        refine jr_zret rfl rfl rfl (Nat.zero_le _) (Nat.zero_le _) ?_
        refine jr_if_eq rfl (fun z => absurd z (by decide)) (fun _ => ?_)
        refine jr_aload rfl rfl ?_
        refine jr_cv0 (mc' := 0) (ms' := 0) rfl jm_MD_hasMonths_n jm_MD_hasMonths_f rfl rfl rfl rfl rfl rfl rfl (Nat.zero_le _) (Nat.zero_le _) ?_
        show jx_W (jm_MD_hasMonths, _, _, _, _, _, _) _ 0 0 0 [some _] [] _
        refine jr_aload rfl rfl ?_
        refine jr_getR rfl rfl rfl rfl (Or.inl rfl) ?_
        refine jr_aload rfl rfl ?_
        refine jr_getI rfl rfl ?_
        refine jr_iald (len := 2) rfl rfl hw.1 (by omega) ?_
        refine jr_if_le rfl (fun m5MDhasMonths => ?_) (fun m5MDhasMonths => ?_)
        · refine jr_ic rfl ?_
          refine jr_zret rfl rfl rfl (Nat.zero_le _) (Nat.zero_le _) ?_
          refine jr_if_ne rfl (fun z => absurd (by decide) z) (fun _ => ?_)
          refine jr_ic rfl ?_
          refine jr_iret rfl rfl (Nat.zero_le _) (Nat.zero_le _) ?_
          first
            | exact ⟨congrArg (fun z => some (jv_i z)) (show (-1 : Int32) = jw_ag 0 (jw_ay (jw_L hm b (jA hm)) p (jz_nm hm b) 31 0) by rw [hag]; rfl), (jz_Rel_s hRel0 hS5)⟩
            | (first
                | (exfalso; omega)
                | (exfalso; simp (disch := omega) only [Int32.lt_iff_toInt_lt, Int32.le_iff_toInt_le, ← Int32.toInt_inj, Int32.reduceToInt, nI_toInt] at c3 m5MDhasMonths; done)
                | (exfalso; simp (disch := omega) only [Int32.lt_iff_toInt_lt, Int32.le_iff_toInt_le, ← Int32.toInt_inj, Int32.reduceToInt, nI_toInt] at c3 m5MDhasMonths; omega))
        · refine jr_ic rfl ?_
          refine jr_goto rfl ?_
          refine jr_zret rfl rfl rfl (Nat.zero_le _) (Nat.zero_le _) ?_
          refine jr_if_ne rfl (fun _ => ?_) (fun z => absurd z (by decide))
          refine jr_aload rfl rfl ?_
          refine jr_cv0 (mc' := 0) (ms' := 0) rfl jm_MD_keepHead_n jm_MD_keepHead_f rfl rfl rfl rfl rfl rfl rfl (Nat.zero_le _) (Nat.zero_le _) ?_
          refine eB_keepHead (fun S4 hS4 hH1 => ?_)
          refine jr_aload rfl rfl ?_
          refine jr_iload rfl rfl ?_
          refine jr_cv1 (mc' := 0) (ms' := 0) rfl jm_MD_againBy_n jm_MD_againBy_f rfl rfl rfl rfl rfl rfl rfl (Nat.zero_le _) (Nat.zero_le _) ?_
          refine eB_againBy hw hS4 hmo g1 g2 hp hp1 hp2 (fun S5 k5 hS5 hf2 => ?_)
          refine jr_ist2 rfl rfl ?_
          refine jr_aload rfl rfl ?_
          refine jr_cv0 (mc' := 0) (ms' := 0) rfl jm_MD_bringHead_n jm_MD_bringHead_f rfl rfl rfl rfl rfl rfl rfl (Nat.zero_le _) (Nat.zero_le _) ?_
          refine eS_bringHead (h := hm) (fun q hq => by rw [hf2]; exact hH1 q hq) (fun q hq => jw_nxs_hi hw.2.2.1 (Or.inr (by omega))) ?_
          refine jr_iload rfl rfl ?_
          refine jr_iret rfl rfl (Nat.zero_le _) (Nat.zero_le _) ?_
          first
            | exact ⟨congrArg (fun z => some (jv_i z)) (show (-1 : Int32) = jw_ag 0 (jw_ay (jw_L hm b (jA hm)) p (jz_nm hm b) 31 0) by rw [hag]; rfl), (jz_Rel_s hRel0 hS5)⟩
            | (first
                | (exfalso; omega)
                | (exfalso; simp (disch := omega) only [Int32.lt_iff_toInt_lt, Int32.le_iff_toInt_le, ← Int32.toInt_inj, Int32.reduceToInt, nI_toInt] at c3 m5MDhasMonths; done)
                | (exfalso; simp (disch := omega) only [Int32.lt_iff_toInt_lt, Int32.le_iff_toInt_le, ← Int32.toInt_inj, Int32.reduceToInt, nI_toInt] at c3 m5MDhasMonths; omega))
    · show jx_W (jm_JV_again, d + 40, 0, 0, false, 0, _) _ 0 0 0 [some (jv_r 10 0), some (jv_i 0)] [] _
      refine jr_aload rfl rfl ?_
      refine jr_getM rfl rfl rfl rfl hto ?_
      refine jr_getI rfl rfl ?_
      refine jr_if_eq rfl (fun c3 => ?_) (fun c3 => ?_)
      · refine jr_ic rfl ?_
        refine jr_iret rfl rfl (Nat.zero_le _) (Nat.zero_le _) ?_
        show jx_W (jm_MD_again, d + 40, 0, 0, false, 1, _) _ 0 0 0 [some _, some _, none] [] _
        refine jr_iload rfl rfl ?_
        refine jr_ic rfl ?_
        refine jr_ic rfl ?_
        refine jr_cs3 (mc' := 0) (ms' := 0) rfl jm_MD_isIn_n jm_MD_isIn_f rfl rfl rfl rfl rfl (Nat.zero_le _) (Nat.zero_le _) ?_
        show jx_W (jm_MD_isIn, _, _, _, _, _, _) _ 0 0 0 [some _, some _, some _] [] _
        refine jr_iload rfl rfl ?_
        refine jr_iload rfl rfl ?_
        refine jr_icmp_lt rfl (fun z => absurd z (by decide)) (fun _ => ?_)
        refine jr_iload rfl rfl ?_
        refine jr_iload rfl rfl ?_
        refine jr_icmp_gt rfl (fun z => absurd z (by decide)) (fun _ => ?_)
        refine jr_ic rfl ?_
        refine jr_goto rfl ?_
        refine jr_zret rfl rfl rfl (Nat.zero_le _) (Nat.zero_le _) ?_
        refine jr_if_eq rfl (fun z => absurd z (by decide)) (fun _ => ?_)
        refine jr_aload rfl rfl ?_
        refine jr_cv0 (mc' := 0) (ms' := 0) rfl jm_MD_hasMonths_n jm_MD_hasMonths_f rfl rfl rfl rfl rfl rfl rfl (Nat.zero_le _) (Nat.zero_le _) ?_
        show jx_W (jm_MD_hasMonths, _, _, _, _, _, _) _ 0 0 0 [some _] [] _
        refine jr_aload rfl rfl ?_
        refine jr_getR rfl rfl rfl rfl (Or.inl rfl) ?_
        refine jr_aload rfl rfl ?_
        refine jr_getI rfl rfl ?_
        refine jr_iald (len := 2) rfl rfl hw.1 (by omega) ?_
        refine jr_if_le rfl (fun m5MDhasMonths => ?_) (fun m5MDhasMonths => ?_)
        · refine jr_ic rfl ?_
          refine jr_zret rfl rfl rfl (Nat.zero_le _) (Nat.zero_le _) ?_
          refine jr_if_ne rfl (fun z => absurd (by decide) z) (fun _ => ?_)
          refine jr_ic rfl ?_
          refine jr_iret rfl rfl (Nat.zero_le _) (Nat.zero_le _) ?_
          first
            | exact ⟨congrArg (fun z => some (jv_i z)) (h10.trans (show nI x1 = jw_ag 0 (jw_ay (jw_L hm b (jA hm)) p (jz_nm hm b) 31 0) by rw [hag]; rfl)), (jz_Rel_s hRel0 hS5)⟩
            | (first
                | (exfalso; omega)
                | (exfalso; simp (disch := omega) only [Int32.lt_iff_toInt_lt, Int32.le_iff_toInt_le, ← Int32.toInt_inj, Int32.reduceToInt, nI_toInt] at c3 m5MDhasMonths; done)
                | (exfalso; simp (disch := omega) only [Int32.lt_iff_toInt_lt, Int32.le_iff_toInt_le, ← Int32.toInt_inj, Int32.reduceToInt, nI_toInt] at c3 m5MDhasMonths; omega))
        · refine jr_ic rfl ?_
          refine jr_goto rfl ?_
          refine jr_zret rfl rfl rfl (Nat.zero_le _) (Nat.zero_le _) ?_
          refine jr_if_ne rfl (fun _ => ?_) (fun z => absurd z (by decide))
          refine jr_aload rfl rfl ?_
          refine jr_cv0 (mc' := 0) (ms' := 0) rfl jm_MD_keepHead_n jm_MD_keepHead_f rfl rfl rfl rfl rfl rfl rfl (Nat.zero_le _) (Nat.zero_le _) ?_
          refine eB_keepHead (fun S4 hS4 hH1 => ?_)
          refine jr_aload rfl rfl ?_
          refine jr_iload rfl rfl ?_
          refine jr_cv1 (mc' := 0) (ms' := 0) rfl jm_MD_againBy_n jm_MD_againBy_f rfl rfl rfl rfl rfl rfl rfl (Nat.zero_le _) (Nat.zero_le _) ?_
          refine eB_againBy hw hS4 hmo g1 g2 hp hp1 hp2 (fun S5 k5 hS5 hf2 => ?_)
          refine jr_ist2 rfl rfl ?_
          refine jr_aload rfl rfl ?_
          refine jr_cv0 (mc' := 0) (ms' := 0) rfl jm_MD_bringHead_n jm_MD_bringHead_f rfl rfl rfl rfl rfl rfl rfl (Nat.zero_le _) (Nat.zero_le _) ?_
          refine eS_bringHead (h := hm) (fun q hq => by rw [hf2]; exact hH1 q hq) (fun q hq => jw_nxs_hi hw.2.2.1 (Or.inr (by omega))) ?_
          refine jr_iload rfl rfl ?_
          refine jr_iret rfl rfl (Nat.zero_le _) (Nat.zero_le _) ?_
          first
            | exact ⟨congrArg (fun z => some (jv_i z)) (h10.trans (show nI x1 = jw_ag 0 (jw_ay (jw_L hm b (jA hm)) p (jz_nm hm b) 31 0) by rw [hag]; rfl)), (jz_Rel_s hRel0 hS5)⟩
            | (first
                | (exfalso; omega)
                | (exfalso; simp (disch := omega) only [Int32.lt_iff_toInt_lt, Int32.le_iff_toInt_le, ← Int32.toInt_inj, Int32.reduceToInt, nI_toInt] at c3 m5MDhasMonths; done)
                | (exfalso; simp (disch := omega) only [Int32.lt_iff_toInt_lt, Int32.le_iff_toInt_le, ← Int32.toInt_inj, Int32.reduceToInt, nI_toInt] at c3 m5MDhasMonths; omega))
      · refine jr_iload rfl rfl ?_
        refine jr_if_lt rfl (fun z => absurd z (by decide)) (fun _ => ?_)
        refine jr_iload rfl rfl ?_
        refine jr_ic rfl ?_
        refine jr_icmp_gt rfl (fun z => absurd z (by decide)) (fun _ => ?_)
        refine jr_aload rfl rfl ?_
        refine jr_getR rfl rfl rfl rfl (Or.inl rfl) ?_
        refine jr_aload rfl rfl ?_
        refine jr_getR rfl rfl rfl rfl (Or.inl rfl) ?_
        refine jr_cv1 (mc' := 0) (ms' := 0) rfl jm_For_findAgain_n jm_For_findAgain_f rfl rfl rfl rfl rfl rfl rfl (Nat.zero_le _) (Nat.zero_le _) ?_
        refine ev_For_again hw hmo hR hA g1 g2 hp hp1 hp2 (fun q T1 S1 kc1 => absurd (q.symm.trans hag) (by intro e; cases e)) (fun x1 y1 q T1 S1 kc1 h10 h11 => ?_)
        obtain ⟨rfl, rfl⟩ : x1 = x2 ∧ y1 = y2 := by have := q.symm.trans hag; cases this; exact ⟨rfl, rfl⟩
        refine jr_if_ne rfl (fun _ => ?_) (fun z => absurd z (by decide))
        refine jr_iload rfl rfl ?_
        refine jr_if_ne rfl (fun z => absurd (by decide) z) (fun _ => ?_)
        refine jr_aload rfl rfl ?_
        refine jr_getR rfl rfl rfl rfl (Or.inl rfl) ?_
        refine jr_getI rfl rfl ?_
        refine jr_goto rfl ?_
        refine jr_iret rfl rfl (Nat.zero_le _) (Nat.zero_le _) ?_
        show jx_W (jm_MD_again, d + 40, 0, 0, false, 1, _) _ 0 0 0 [some _, some _, none] [] _
        refine jr_iload rfl rfl ?_
        refine jr_ic rfl ?_
        refine jr_ic rfl ?_
        refine jr_cs3 (mc' := 0) (ms' := 0) rfl jm_MD_isIn_n jm_MD_isIn_f rfl rfl rfl rfl rfl (Nat.zero_le _) (Nat.zero_le _) ?_
        show jx_W (jm_MD_isIn, _, _, _, _, _, _) _ 0 0 0 [some _, some _, some _] [] _
        refine jr_iload rfl rfl ?_
        refine jr_iload rfl rfl ?_
        refine jr_icmp_lt rfl (fun z => absurd z (by decide)) (fun _ => ?_)
        refine jr_iload rfl rfl ?_
        refine jr_iload rfl rfl ?_
        refine jr_icmp_gt rfl (fun z => absurd z (by decide)) (fun _ => ?_)
        refine jr_ic rfl ?_
        refine jr_goto rfl ?_
        refine jr_zret rfl rfl rfl (Nat.zero_le _) (Nat.zero_le _) ?_
        refine jr_if_eq rfl (fun z => absurd z (by decide)) (fun _ => ?_)
        refine jr_aload rfl rfl ?_
        refine jr_cv0 (mc' := 0) (ms' := 0) rfl jm_MD_hasMonths_n jm_MD_hasMonths_f rfl rfl rfl rfl rfl rfl rfl (Nat.zero_le _) (Nat.zero_le _) ?_
        show jx_W (jm_MD_hasMonths, _, _, _, _, _, _) _ 0 0 0 [some _] [] _
        refine jr_aload rfl rfl ?_
        refine jr_getR rfl rfl rfl rfl (Or.inl rfl) ?_
        refine jr_aload rfl rfl ?_
        refine jr_getI rfl rfl ?_
        refine jr_iald (len := 2) rfl rfl hw.1 (by omega) ?_
        refine jr_if_le rfl (fun m5MDhasMonths => ?_) (fun m5MDhasMonths => ?_)
        · refine jr_ic rfl ?_
          refine jr_zret rfl rfl rfl (Nat.zero_le _) (Nat.zero_le _) ?_
          refine jr_if_ne rfl (fun z => absurd (by decide) z) (fun _ => ?_)
          refine jr_ic rfl ?_
          refine jr_iret rfl rfl (Nat.zero_le _) (Nat.zero_le _) ?_
          first
            | exact ⟨congrArg (fun z => some (jv_i z)) (h10.trans (show nI x1 = jw_ag 0 (jw_ay (jw_L hm b (jA hm)) p (jz_nm hm b) 31 0) by rw [hag]; rfl)), (jz_Rel_s hRel0 hS5)⟩
            | (first
                | (exfalso; omega)
                | (exfalso; simp (disch := omega) only [Int32.lt_iff_toInt_lt, Int32.le_iff_toInt_le, ← Int32.toInt_inj, Int32.reduceToInt, nI_toInt] at c3 m5MDhasMonths; done)
                | (exfalso; simp (disch := omega) only [Int32.lt_iff_toInt_lt, Int32.le_iff_toInt_le, ← Int32.toInt_inj, Int32.reduceToInt, nI_toInt] at c3 m5MDhasMonths; omega))
        · refine jr_ic rfl ?_
          refine jr_goto rfl ?_
          refine jr_zret rfl rfl rfl (Nat.zero_le _) (Nat.zero_le _) ?_
          refine jr_if_ne rfl (fun _ => ?_) (fun z => absurd z (by decide))
          refine jr_aload rfl rfl ?_
          refine jr_cv0 (mc' := 0) (ms' := 0) rfl jm_MD_keepHead_n jm_MD_keepHead_f rfl rfl rfl rfl rfl rfl rfl (Nat.zero_le _) (Nat.zero_le _) ?_
          refine eB_keepHead (fun S4 hS4 hH1 => ?_)
          refine jr_aload rfl rfl ?_
          refine jr_iload rfl rfl ?_
          refine jr_cv1 (mc' := 0) (ms' := 0) rfl jm_MD_againBy_n jm_MD_againBy_f rfl rfl rfl rfl rfl rfl rfl (Nat.zero_le _) (Nat.zero_le _) ?_
          refine eB_againBy hw hS4 hmo g1 g2 hp hp1 hp2 (fun S5 k5 hS5 hf2 => ?_)
          refine jr_ist2 rfl rfl ?_
          refine jr_aload rfl rfl ?_
          refine jr_cv0 (mc' := 0) (ms' := 0) rfl jm_MD_bringHead_n jm_MD_bringHead_f rfl rfl rfl rfl rfl rfl rfl (Nat.zero_le _) (Nat.zero_le _) ?_
          refine eS_bringHead (h := hm) (fun q hq => by rw [hf2]; exact hH1 q hq) (fun q hq => jw_nxs_hi hw.2.2.1 (Or.inr (by omega))) ?_
          refine jr_iload rfl rfl ?_
          refine jr_iret rfl rfl (Nat.zero_le _) (Nat.zero_le _) ?_
          first
            | exact ⟨congrArg (fun z => some (jv_i z)) (h10.trans (show nI x1 = jw_ag 0 (jw_ay (jw_L hm b (jA hm)) p (jz_nm hm b) 31 0) by rw [hag]; rfl)), (jz_Rel_s hRel0 hS5)⟩
            | (first
                | (exfalso; omega)
                | (exfalso; simp (disch := omega) only [Int32.lt_iff_toInt_lt, Int32.le_iff_toInt_le, ← Int32.toInt_inj, Int32.reduceToInt, nI_toInt] at c3 m5MDhasMonths; done)
                | (exfalso; simp (disch := omega) only [Int32.lt_iff_toInt_lt, Int32.le_iff_toInt_le, ← Int32.toInt_inj, Int32.reduceToInt, nI_toInt] at c3 m5MDhasMonths; omega))

set_option maxHeartbeats 800000 in
set_option maxRecDepth 100000 in
theorem pd_again_1 {d : Nat} {hc hm : jx_H} (hRel : jz_Rel hc hm) : jx_Ev jm_JV_again (d + 40) 0 0 false 0 [jv_r 10 0, jv_i 1] hc (fun r hc' => jx_Ev jm_MD_again (d + 40) 0 0 false 1 [jv_r 11 0, jv_i 1] hm (fun r' hm' => r = r' ∧ jz_Rel hc' hm')) := by
  have hRel0 := hRel
  obtain ⟨b, r, ⟨hw, hG, hr2, hto, hsp, hR, hA, hL⟩, hTa, hFa, hLy, hTi, hLe, hBo, hAc, hWo⟩ := hRel
  have hb2 := hw.2.1
  have hnm := hw.2.2.1.1
  have hnm5 := hnm.2
  have km1 : (jh_I hc 7 r 0).toInt = (jz_nm hm b : Int) := by rw [hR.1]; exact (congrArg Int32.toInt hnm.1).trans (nI_toInt (by omega))
  have km2 : (jh_I hm 66 0 b).toInt = (jz_nm hm b : Int) := (congrArg Int32.toInt hnm.1).trans (nI_toInt (by omega))
  have km3 : (jh_I hm 66 0 b - 1).toInt = (jz_nm hm b : Int) - 1 := by rw [Int32.toInt_sub, km2, show (1 : Int32).toInt = 1 from rfl]; exact jn_sm (by omega) (by omega)
  obtain ⟨-, w, g1, g2, g3, g4⟩ := id hG
  rcases Classical.em (jC hm b 0 0 = 0) with hmo | hmo
  · have hn0 : (jz_nm hm b : Int) = 0 := by rw [← km2]; exact congrArg Int32.toInt hmo
    show jx_W (jm_JV_again, d + 40, 0, 0, false, 0, _) _ 0 0 0 [some (jv_r 10 0), some (jv_i 1)] [] _
    refine jr_aload rfl rfl ?_
    refine jr_getM rfl rfl rfl rfl hto ?_
    refine jr_getI rfl rfl ?_
    refine jr_if_eq rfl (fun c3 => ?_) (fun c3 => ?_)
    · refine jr_ic rfl ?_
      refine jr_iret rfl rfl (Nat.zero_le _) (Nat.zero_le _) ?_
      show jx_W (jm_MD_again, d + 40, 0, 0, false, 1, _) _ 0 0 0 [some _, some _, none] [] _
      refine jr_iload rfl rfl ?_
      refine jr_ic rfl ?_
      refine jr_ic rfl ?_
      refine jr_cs3 (mc' := 0) (ms' := 0) rfl jm_MD_isIn_n jm_MD_isIn_f rfl rfl rfl rfl rfl (Nat.zero_le _) (Nat.zero_le _) ?_
      show jx_W (jm_MD_isIn, _, _, _, _, _, _) _ 0 0 0 [some _, some _, some _] [] _
      refine jr_iload rfl rfl ?_
      refine jr_iload rfl rfl ?_
      refine jr_icmp_lt rfl (fun z => absurd z (by decide)) (fun _ => ?_)
      refine jr_iload rfl rfl ?_
      refine jr_iload rfl rfl ?_
      refine jr_icmp_gt rfl (fun z => absurd z (by decide)) (fun _ => ?_)
      refine jr_ic rfl ?_
      refine jr_goto rfl ?_
      refine jr_zret rfl rfl rfl (Nat.zero_le _) (Nat.zero_le _) ?_
      refine jr_if_eq rfl (fun z => absurd z (by decide)) (fun _ => ?_)
      refine jr_aload rfl rfl ?_
      refine jr_cv0 (mc' := 0) (ms' := 0) rfl jm_MD_hasMonths_n jm_MD_hasMonths_f rfl rfl rfl rfl rfl rfl rfl (Nat.zero_le _) (Nat.zero_le _) ?_
      show jx_W (jm_MD_hasMonths, _, _, _, _, _, _) _ 0 0 0 [some _] [] _
      refine jr_aload rfl rfl ?_
      refine jr_getR rfl rfl rfl rfl (Or.inl rfl) ?_
      refine jr_aload rfl rfl ?_
      refine jr_getI rfl rfl ?_
      refine jr_iald (len := 2) rfl rfl hw.1 (by omega) ?_
      refine jr_if_le rfl (fun m5MDhasMonths => ?_) (fun m5MDhasMonths => ?_)
      · refine jr_ic rfl ?_
        refine jr_zret rfl rfl rfl (Nat.zero_le _) (Nat.zero_le _) ?_
        refine jr_if_ne rfl (fun z => absurd (by decide) z) (fun _ => ?_)
        refine jr_ic rfl ?_
        refine jr_iret rfl rfl (Nat.zero_le _) (Nat.zero_le _) ?_
        first
          | exact ⟨rfl, hRel0⟩
          | (exfalso; omega)
          | (exfalso; simp (disch := omega) only [Int32.lt_iff_toInt_lt, Int32.le_iff_toInt_le, ← Int32.toInt_inj, Int32.reduceToInt, nI_toInt] at c3 m5MDhasMonths; done)
          | (exfalso; simp (disch := omega) only [Int32.lt_iff_toInt_lt, Int32.le_iff_toInt_le, ← Int32.toInt_inj, Int32.reduceToInt, nI_toInt] at c3 m5MDhasMonths; omega)
      · refine jr_ic rfl ?_
        refine jr_goto rfl ?_
        refine jr_zret rfl rfl rfl (Nat.zero_le _) (Nat.zero_le _) ?_
        refine jr_if_ne rfl (fun _ => ?_) (fun z => absurd z (by decide))
        refine jr_aload rfl rfl ?_
        refine jr_cv0 (mc' := 0) (ms' := 0) rfl jm_MD_keepHead_n jm_MD_keepHead_f rfl rfl rfl rfl rfl rfl rfl (Nat.zero_le _) (Nat.zero_le _) ?_
        first
          | (exfalso; omega)
          | (exfalso; simp (disch := omega) only [Int32.lt_iff_toInt_lt, Int32.le_iff_toInt_le, ← Int32.toInt_inj, Int32.reduceToInt, nI_toInt] at c3 m5MDhasMonths; done)
          | (exfalso; simp (disch := omega) only [Int32.lt_iff_toInt_lt, Int32.le_iff_toInt_le, ← Int32.toInt_inj, Int32.reduceToInt, nI_toInt] at c3 m5MDhasMonths; omega)
    · refine jr_iload rfl rfl ?_
      refine jr_if_lt rfl (fun z => absurd z (by decide)) (fun _ => ?_)
      refine jr_iload rfl rfl ?_
      refine jr_ic rfl ?_
      refine jr_icmp_gt rfl (fun z => absurd z (by decide)) (fun _ => ?_)
      refine jr_aload rfl rfl ?_
      refine jr_getR rfl rfl rfl rfl (Or.inl rfl) ?_
      refine jr_aload rfl rfl ?_
      refine jr_getR rfl rfl rfl rfl (Or.inl rfl) ?_
      refine jr_cv1 (mc' := 0) (ms' := 0) rfl jm_For_findAgain_n jm_For_findAgain_f rfl rfl rfl rfl rfl rfl rfl (Nat.zero_le _) (Nat.zero_le _) ?_
      first
        | (exfalso; omega)
        | (exfalso; simp (disch := omega) only [Int32.lt_iff_toInt_lt, Int32.le_iff_toInt_le, ← Int32.toInt_inj, Int32.reduceToInt, nI_toInt] at c3; done)
        | (exfalso; simp (disch := omega) only [Int32.lt_iff_toInt_lt, Int32.le_iff_toInt_le, ← Int32.toInt_inj, Int32.reduceToInt, nI_toInt] at c3; omega)
  · have hn1 : 0 < jz_nm hm b := by
      rcases Nat.eq_zero_or_pos (jz_nm hm b) with e | e
      · rw [e] at hnm; exact absurd hnm.1 hmo
      · exact e
    obtain ⟨p, hp, hp1, hp2⟩ := jz_pre w hn1 hnm5
    rcases hag : jw_ay (jw_L hm b (jA hm)) p (jz_nm hm b) 31 0 with _ | ⟨x2, y2⟩
    · show jx_W (jm_JV_again, d + 40, 0, 0, false, 0, _) _ 0 0 0 [some (jv_r 10 0), some (jv_i 1)] [] _
      refine jr_aload rfl rfl ?_
      refine jr_getM rfl rfl rfl rfl hto ?_
      refine jr_getI rfl rfl ?_
      refine jr_if_eq rfl (fun c3 => ?_) (fun c3 => ?_)
      · refine jr_ic rfl ?_
        refine jr_iret rfl rfl (Nat.zero_le _) (Nat.zero_le _) ?_
        show jx_W (jm_MD_again, d + 40, 0, 0, false, 1, _) _ 0 0 0 [some _, some _, none] [] _
        refine jr_iload rfl rfl ?_
        refine jr_ic rfl ?_
        refine jr_ic rfl ?_
        refine jr_cs3 (mc' := 0) (ms' := 0) rfl jm_MD_isIn_n jm_MD_isIn_f rfl rfl rfl rfl rfl (Nat.zero_le _) (Nat.zero_le _) ?_
        show jx_W (jm_MD_isIn, _, _, _, _, _, _) _ 0 0 0 [some _, some _, some _] [] _
        refine jr_iload rfl rfl ?_
        refine jr_iload rfl rfl ?_
        refine jr_icmp_lt rfl (fun z => absurd z (by decide)) (fun _ => ?_)
        refine jr_iload rfl rfl ?_
        refine jr_iload rfl rfl ?_
        refine jr_icmp_gt rfl (fun z => absurd z (by decide)) (fun _ => ?_)
        refine jr_ic rfl ?_
        refine jr_goto rfl ?_
        refine jr_zret rfl rfl rfl (Nat.zero_le _) (Nat.zero_le _) ?_
        refine jr_if_eq rfl (fun z => absurd z (by decide)) (fun _ => ?_)
        refine jr_aload rfl rfl ?_
        refine jr_cv0 (mc' := 0) (ms' := 0) rfl jm_MD_hasMonths_n jm_MD_hasMonths_f rfl rfl rfl rfl rfl rfl rfl (Nat.zero_le _) (Nat.zero_le _) ?_
        show jx_W (jm_MD_hasMonths, _, _, _, _, _, _) _ 0 0 0 [some _] [] _
        refine jr_aload rfl rfl ?_
        refine jr_getR rfl rfl rfl rfl (Or.inl rfl) ?_
        refine jr_aload rfl rfl ?_
        refine jr_getI rfl rfl ?_
        refine jr_iald (len := 2) rfl rfl hw.1 (by omega) ?_
        refine jr_if_le rfl (fun m5MDhasMonths => ?_) (fun m5MDhasMonths => ?_)
        · refine jr_ic rfl ?_
          refine jr_zret rfl rfl rfl (Nat.zero_le _) (Nat.zero_le _) ?_
          refine jr_if_ne rfl (fun z => absurd (by decide) z) (fun _ => ?_)
          refine jr_ic rfl ?_
          refine jr_iret rfl rfl (Nat.zero_le _) (Nat.zero_le _) ?_
          first
            | exact ⟨congrArg (fun z => some (jv_i z)) (show (-1 : Int32) = jw_ag 1 (jw_ay (jw_L hm b (jA hm)) p (jz_nm hm b) 31 0) by rw [hag]; rfl), (jz_Rel_s hRel0 hS5)⟩
            | (first
                | (exfalso; omega)
                | (exfalso; simp (disch := omega) only [Int32.lt_iff_toInt_lt, Int32.le_iff_toInt_le, ← Int32.toInt_inj, Int32.reduceToInt, nI_toInt] at c3 m5MDhasMonths; done)
                | (exfalso; simp (disch := omega) only [Int32.lt_iff_toInt_lt, Int32.le_iff_toInt_le, ← Int32.toInt_inj, Int32.reduceToInt, nI_toInt] at c3 m5MDhasMonths; omega))
        · refine jr_ic rfl ?_
          refine jr_goto rfl ?_
          refine jr_zret rfl rfl rfl (Nat.zero_le _) (Nat.zero_le _) ?_
          refine jr_if_ne rfl (fun _ => ?_) (fun z => absurd z (by decide))
          refine jr_aload rfl rfl ?_
          refine jr_cv0 (mc' := 0) (ms' := 0) rfl jm_MD_keepHead_n jm_MD_keepHead_f rfl rfl rfl rfl rfl rfl rfl (Nat.zero_le _) (Nat.zero_le _) ?_
          refine eB_keepHead (fun S4 hS4 hH1 => ?_)
          refine jr_aload rfl rfl ?_
          refine jr_iload rfl rfl ?_
          refine jr_cv1 (mc' := 0) (ms' := 0) rfl jm_MD_againBy_n jm_MD_againBy_f rfl rfl rfl rfl rfl rfl rfl (Nat.zero_le _) (Nat.zero_le _) ?_
          refine eB_againBy hw hS4 hmo g1 g2 hp hp1 hp2 (fun S5 k5 hS5 hf2 => ?_)
          refine jr_ist2 rfl rfl ?_
          refine jr_aload rfl rfl ?_
          refine jr_cv0 (mc' := 0) (ms' := 0) rfl jm_MD_bringHead_n jm_MD_bringHead_f rfl rfl rfl rfl rfl rfl rfl (Nat.zero_le _) (Nat.zero_le _) ?_
          refine eS_bringHead (h := hm) (fun q hq => by rw [hf2]; exact hH1 q hq) (fun q hq => jw_nxs_hi hw.2.2.1 (Or.inr (by omega))) ?_
          refine jr_iload rfl rfl ?_
          refine jr_iret rfl rfl (Nat.zero_le _) (Nat.zero_le _) ?_
          first
            | exact ⟨congrArg (fun z => some (jv_i z)) (show (-1 : Int32) = jw_ag 1 (jw_ay (jw_L hm b (jA hm)) p (jz_nm hm b) 31 0) by rw [hag]; rfl), (jz_Rel_s hRel0 hS5)⟩
            | (first
                | (exfalso; omega)
                | (exfalso; simp (disch := omega) only [Int32.lt_iff_toInt_lt, Int32.le_iff_toInt_le, ← Int32.toInt_inj, Int32.reduceToInt, nI_toInt] at c3 m5MDhasMonths; done)
                | (exfalso; simp (disch := omega) only [Int32.lt_iff_toInt_lt, Int32.le_iff_toInt_le, ← Int32.toInt_inj, Int32.reduceToInt, nI_toInt] at c3 m5MDhasMonths; omega))
      · refine jr_iload rfl rfl ?_
        refine jr_if_lt rfl (fun z => absurd z (by decide)) (fun _ => ?_)
        refine jr_iload rfl rfl ?_
        refine jr_ic rfl ?_
        refine jr_icmp_gt rfl (fun z => absurd z (by decide)) (fun _ => ?_)
        refine jr_aload rfl rfl ?_
        refine jr_getR rfl rfl rfl rfl (Or.inl rfl) ?_
        refine jr_aload rfl rfl ?_
        refine jr_getR rfl rfl rfl rfl (Or.inl rfl) ?_
        refine jr_cv1 (mc' := 0) (ms' := 0) rfl jm_For_findAgain_n jm_For_findAgain_f rfl rfl rfl rfl rfl rfl rfl (Nat.zero_le _) (Nat.zero_le _) ?_
        refine ev_For_again hw hmo hR hA g1 g2 hp hp1 hp2 (fun q T1 S1 kc1 => ?_) (fun x1 y1 q T1 S1 kc1 h10 h11 => absurd (q.symm.trans hag) (by intro e; cases e))
        refine jr_if_ne rfl (fun z => absurd (by decide) z) (fun _ => ?_)
        refine jr_ic rfl ?_
        refine jr_iret rfl rfl (Nat.zero_le _) (Nat.zero_le _) ?_
        show jx_W (jm_MD_again, d + 40, 0, 0, false, 1, _) _ 0 0 0 [some _, some _, none] [] _
        refine jr_iload rfl rfl ?_
        refine jr_ic rfl ?_
        refine jr_ic rfl ?_
        refine jr_cs3 (mc' := 0) (ms' := 0) rfl jm_MD_isIn_n jm_MD_isIn_f rfl rfl rfl rfl rfl (Nat.zero_le _) (Nat.zero_le _) ?_
        show jx_W (jm_MD_isIn, _, _, _, _, _, _) _ 0 0 0 [some _, some _, some _] [] _
        refine jr_iload rfl rfl ?_
        refine jr_iload rfl rfl ?_
        refine jr_icmp_lt rfl (fun z => absurd z (by decide)) (fun _ => ?_)
        refine jr_iload rfl rfl ?_
        refine jr_iload rfl rfl ?_
        refine jr_icmp_gt rfl (fun z => absurd z (by decide)) (fun _ => ?_)
        refine jr_ic rfl ?_
        refine jr_goto rfl ?_
        refine jr_zret rfl rfl rfl (Nat.zero_le _) (Nat.zero_le _) ?_
        refine jr_if_eq rfl (fun z => absurd z (by decide)) (fun _ => ?_)
        refine jr_aload rfl rfl ?_
        refine jr_cv0 (mc' := 0) (ms' := 0) rfl jm_MD_hasMonths_n jm_MD_hasMonths_f rfl rfl rfl rfl rfl rfl rfl (Nat.zero_le _) (Nat.zero_le _) ?_
        show jx_W (jm_MD_hasMonths, _, _, _, _, _, _) _ 0 0 0 [some _] [] _
        refine jr_aload rfl rfl ?_
        refine jr_getR rfl rfl rfl rfl (Or.inl rfl) ?_
        refine jr_aload rfl rfl ?_
        refine jr_getI rfl rfl ?_
        refine jr_iald (len := 2) rfl rfl hw.1 (by omega) ?_
        refine jr_if_le rfl (fun m5MDhasMonths => ?_) (fun m5MDhasMonths => ?_)
        · refine jr_ic rfl ?_
          refine jr_zret rfl rfl rfl (Nat.zero_le _) (Nat.zero_le _) ?_
          refine jr_if_ne rfl (fun z => absurd (by decide) z) (fun _ => ?_)
          refine jr_ic rfl ?_
          refine jr_iret rfl rfl (Nat.zero_le _) (Nat.zero_le _) ?_
          first
            | exact ⟨congrArg (fun z => some (jv_i z)) (show (-1 : Int32) = jw_ag 1 (jw_ay (jw_L hm b (jA hm)) p (jz_nm hm b) 31 0) by rw [hag]; rfl), (jz_Rel_s hRel0 hS5)⟩
            | (first
                | (exfalso; omega)
                | (exfalso; simp (disch := omega) only [Int32.lt_iff_toInt_lt, Int32.le_iff_toInt_le, ← Int32.toInt_inj, Int32.reduceToInt, nI_toInt] at c3 m5MDhasMonths; done)
                | (exfalso; simp (disch := omega) only [Int32.lt_iff_toInt_lt, Int32.le_iff_toInt_le, ← Int32.toInt_inj, Int32.reduceToInt, nI_toInt] at c3 m5MDhasMonths; omega))
        · refine jr_ic rfl ?_
          refine jr_goto rfl ?_
          refine jr_zret rfl rfl rfl (Nat.zero_le _) (Nat.zero_le _) ?_
          refine jr_if_ne rfl (fun _ => ?_) (fun z => absurd z (by decide))
          refine jr_aload rfl rfl ?_
          refine jr_cv0 (mc' := 0) (ms' := 0) rfl jm_MD_keepHead_n jm_MD_keepHead_f rfl rfl rfl rfl rfl rfl rfl (Nat.zero_le _) (Nat.zero_le _) ?_
          refine eB_keepHead (fun S4 hS4 hH1 => ?_)
          refine jr_aload rfl rfl ?_
          refine jr_iload rfl rfl ?_
          refine jr_cv1 (mc' := 0) (ms' := 0) rfl jm_MD_againBy_n jm_MD_againBy_f rfl rfl rfl rfl rfl rfl rfl (Nat.zero_le _) (Nat.zero_le _) ?_
          refine eB_againBy hw hS4 hmo g1 g2 hp hp1 hp2 (fun S5 k5 hS5 hf2 => ?_)
          refine jr_ist2 rfl rfl ?_
          refine jr_aload rfl rfl ?_
          refine jr_cv0 (mc' := 0) (ms' := 0) rfl jm_MD_bringHead_n jm_MD_bringHead_f rfl rfl rfl rfl rfl rfl rfl (Nat.zero_le _) (Nat.zero_le _) ?_
          refine eS_bringHead (h := hm) (fun q hq => by rw [hf2]; exact hH1 q hq) (fun q hq => jw_nxs_hi hw.2.2.1 (Or.inr (by omega))) ?_
          refine jr_iload rfl rfl ?_
          refine jr_iret rfl rfl (Nat.zero_le _) (Nat.zero_le _) ?_
          first
            | exact ⟨congrArg (fun z => some (jv_i z)) (show (-1 : Int32) = jw_ag 1 (jw_ay (jw_L hm b (jA hm)) p (jz_nm hm b) 31 0) by rw [hag]; rfl), (jz_Rel_s hRel0 hS5)⟩
            | (first
                | (exfalso; omega)
                | (exfalso; simp (disch := omega) only [Int32.lt_iff_toInt_lt, Int32.le_iff_toInt_le, ← Int32.toInt_inj, Int32.reduceToInt, nI_toInt] at c3 m5MDhasMonths; done)
                | (exfalso; simp (disch := omega) only [Int32.lt_iff_toInt_lt, Int32.le_iff_toInt_le, ← Int32.toInt_inj, Int32.reduceToInt, nI_toInt] at c3 m5MDhasMonths; omega))
    · show jx_W (jm_JV_again, d + 40, 0, 0, false, 0, _) _ 0 0 0 [some (jv_r 10 0), some (jv_i 1)] [] _
      refine jr_aload rfl rfl ?_
      refine jr_getM rfl rfl rfl rfl hto ?_
      refine jr_getI rfl rfl ?_
      refine jr_if_eq rfl (fun c3 => ?_) (fun c3 => ?_)
      · refine jr_ic rfl ?_
        refine jr_iret rfl rfl (Nat.zero_le _) (Nat.zero_le _) ?_
        show jx_W (jm_MD_again, d + 40, 0, 0, false, 1, _) _ 0 0 0 [some _, some _, none] [] _
        refine jr_iload rfl rfl ?_
        refine jr_ic rfl ?_
        refine jr_ic rfl ?_
        refine jr_cs3 (mc' := 0) (ms' := 0) rfl jm_MD_isIn_n jm_MD_isIn_f rfl rfl rfl rfl rfl (Nat.zero_le _) (Nat.zero_le _) ?_
        show jx_W (jm_MD_isIn, _, _, _, _, _, _) _ 0 0 0 [some _, some _, some _] [] _
        refine jr_iload rfl rfl ?_
        refine jr_iload rfl rfl ?_
        refine jr_icmp_lt rfl (fun z => absurd z (by decide)) (fun _ => ?_)
        refine jr_iload rfl rfl ?_
        refine jr_iload rfl rfl ?_
        refine jr_icmp_gt rfl (fun z => absurd z (by decide)) (fun _ => ?_)
        refine jr_ic rfl ?_
        refine jr_goto rfl ?_
        refine jr_zret rfl rfl rfl (Nat.zero_le _) (Nat.zero_le _) ?_
        refine jr_if_eq rfl (fun z => absurd z (by decide)) (fun _ => ?_)
        refine jr_aload rfl rfl ?_
        refine jr_cv0 (mc' := 0) (ms' := 0) rfl jm_MD_hasMonths_n jm_MD_hasMonths_f rfl rfl rfl rfl rfl rfl rfl (Nat.zero_le _) (Nat.zero_le _) ?_
        show jx_W (jm_MD_hasMonths, _, _, _, _, _, _) _ 0 0 0 [some _] [] _
        refine jr_aload rfl rfl ?_
        refine jr_getR rfl rfl rfl rfl (Or.inl rfl) ?_
        refine jr_aload rfl rfl ?_
        refine jr_getI rfl rfl ?_
        refine jr_iald (len := 2) rfl rfl hw.1 (by omega) ?_
        refine jr_if_le rfl (fun m5MDhasMonths => ?_) (fun m5MDhasMonths => ?_)
        · refine jr_ic rfl ?_
          refine jr_zret rfl rfl rfl (Nat.zero_le _) (Nat.zero_le _) ?_
          refine jr_if_ne rfl (fun z => absurd (by decide) z) (fun _ => ?_)
          refine jr_ic rfl ?_
          refine jr_iret rfl rfl (Nat.zero_le _) (Nat.zero_le _) ?_
          first
            | exact ⟨congrArg (fun z => some (jv_i z)) (h11.trans (show nI y1 = jw_ag 1 (jw_ay (jw_L hm b (jA hm)) p (jz_nm hm b) 31 0) by rw [hag]; rfl)), (jz_Rel_s hRel0 hS5)⟩
            | (first
                | (exfalso; omega)
                | (exfalso; simp (disch := omega) only [Int32.lt_iff_toInt_lt, Int32.le_iff_toInt_le, ← Int32.toInt_inj, Int32.reduceToInt, nI_toInt] at c3 m5MDhasMonths; done)
                | (exfalso; simp (disch := omega) only [Int32.lt_iff_toInt_lt, Int32.le_iff_toInt_le, ← Int32.toInt_inj, Int32.reduceToInt, nI_toInt] at c3 m5MDhasMonths; omega))
        · refine jr_ic rfl ?_
          refine jr_goto rfl ?_
          refine jr_zret rfl rfl rfl (Nat.zero_le _) (Nat.zero_le _) ?_
          refine jr_if_ne rfl (fun _ => ?_) (fun z => absurd z (by decide))
          refine jr_aload rfl rfl ?_
          refine jr_cv0 (mc' := 0) (ms' := 0) rfl jm_MD_keepHead_n jm_MD_keepHead_f rfl rfl rfl rfl rfl rfl rfl (Nat.zero_le _) (Nat.zero_le _) ?_
          refine eB_keepHead (fun S4 hS4 hH1 => ?_)
          refine jr_aload rfl rfl ?_
          refine jr_iload rfl rfl ?_
          refine jr_cv1 (mc' := 0) (ms' := 0) rfl jm_MD_againBy_n jm_MD_againBy_f rfl rfl rfl rfl rfl rfl rfl (Nat.zero_le _) (Nat.zero_le _) ?_
          refine eB_againBy hw hS4 hmo g1 g2 hp hp1 hp2 (fun S5 k5 hS5 hf2 => ?_)
          refine jr_ist2 rfl rfl ?_
          refine jr_aload rfl rfl ?_
          refine jr_cv0 (mc' := 0) (ms' := 0) rfl jm_MD_bringHead_n jm_MD_bringHead_f rfl rfl rfl rfl rfl rfl rfl (Nat.zero_le _) (Nat.zero_le _) ?_
          refine eS_bringHead (h := hm) (fun q hq => by rw [hf2]; exact hH1 q hq) (fun q hq => jw_nxs_hi hw.2.2.1 (Or.inr (by omega))) ?_
          refine jr_iload rfl rfl ?_
          refine jr_iret rfl rfl (Nat.zero_le _) (Nat.zero_le _) ?_
          first
            | exact ⟨congrArg (fun z => some (jv_i z)) (h11.trans (show nI y1 = jw_ag 1 (jw_ay (jw_L hm b (jA hm)) p (jz_nm hm b) 31 0) by rw [hag]; rfl)), (jz_Rel_s hRel0 hS5)⟩
            | (first
                | (exfalso; omega)
                | (exfalso; simp (disch := omega) only [Int32.lt_iff_toInt_lt, Int32.le_iff_toInt_le, ← Int32.toInt_inj, Int32.reduceToInt, nI_toInt] at c3 m5MDhasMonths; done)
                | (exfalso; simp (disch := omega) only [Int32.lt_iff_toInt_lt, Int32.le_iff_toInt_le, ← Int32.toInt_inj, Int32.reduceToInt, nI_toInt] at c3 m5MDhasMonths; omega))
      · refine jr_iload rfl rfl ?_
        refine jr_if_lt rfl (fun z => absurd z (by decide)) (fun _ => ?_)
        refine jr_iload rfl rfl ?_
        refine jr_ic rfl ?_
        refine jr_icmp_gt rfl (fun z => absurd z (by decide)) (fun _ => ?_)
        refine jr_aload rfl rfl ?_
        refine jr_getR rfl rfl rfl rfl (Or.inl rfl) ?_
        refine jr_aload rfl rfl ?_
        refine jr_getR rfl rfl rfl rfl (Or.inl rfl) ?_
        refine jr_cv1 (mc' := 0) (ms' := 0) rfl jm_For_findAgain_n jm_For_findAgain_f rfl rfl rfl rfl rfl rfl rfl (Nat.zero_le _) (Nat.zero_le _) ?_
        refine ev_For_again hw hmo hR hA g1 g2 hp hp1 hp2 (fun q T1 S1 kc1 => absurd (q.symm.trans hag) (by intro e; cases e)) (fun x1 y1 q T1 S1 kc1 h10 h11 => ?_)
        obtain ⟨rfl, rfl⟩ : x1 = x2 ∧ y1 = y2 := by have := q.symm.trans hag; cases this; exact ⟨rfl, rfl⟩
        refine jr_if_ne rfl (fun _ => ?_) (fun z => absurd z (by decide))
        refine jr_iload rfl rfl ?_
        refine jr_if_ne rfl (fun _ => ?_) (fun z => absurd z (by decide))
        refine jr_aload rfl rfl ?_
        refine jr_getR rfl rfl rfl rfl (Or.inl rfl) ?_
        refine jr_getI rfl rfl ?_
        refine jr_iret rfl rfl (Nat.zero_le _) (Nat.zero_le _) ?_
        show jx_W (jm_MD_again, d + 40, 0, 0, false, 1, _) _ 0 0 0 [some _, some _, none] [] _
        refine jr_iload rfl rfl ?_
        refine jr_ic rfl ?_
        refine jr_ic rfl ?_
        refine jr_cs3 (mc' := 0) (ms' := 0) rfl jm_MD_isIn_n jm_MD_isIn_f rfl rfl rfl rfl rfl (Nat.zero_le _) (Nat.zero_le _) ?_
        show jx_W (jm_MD_isIn, _, _, _, _, _, _) _ 0 0 0 [some _, some _, some _] [] _
        refine jr_iload rfl rfl ?_
        refine jr_iload rfl rfl ?_
        refine jr_icmp_lt rfl (fun z => absurd z (by decide)) (fun _ => ?_)
        refine jr_iload rfl rfl ?_
        refine jr_iload rfl rfl ?_
        refine jr_icmp_gt rfl (fun z => absurd z (by decide)) (fun _ => ?_)
        refine jr_ic rfl ?_
        refine jr_goto rfl ?_
        refine jr_zret rfl rfl rfl (Nat.zero_le _) (Nat.zero_le _) ?_
        refine jr_if_eq rfl (fun z => absurd z (by decide)) (fun _ => ?_)
        refine jr_aload rfl rfl ?_
        refine jr_cv0 (mc' := 0) (ms' := 0) rfl jm_MD_hasMonths_n jm_MD_hasMonths_f rfl rfl rfl rfl rfl rfl rfl (Nat.zero_le _) (Nat.zero_le _) ?_
        show jx_W (jm_MD_hasMonths, _, _, _, _, _, _) _ 0 0 0 [some _] [] _
        refine jr_aload rfl rfl ?_
        refine jr_getR rfl rfl rfl rfl (Or.inl rfl) ?_
        refine jr_aload rfl rfl ?_
        refine jr_getI rfl rfl ?_
        refine jr_iald (len := 2) rfl rfl hw.1 (by omega) ?_
        refine jr_if_le rfl (fun m5MDhasMonths => ?_) (fun m5MDhasMonths => ?_)
        · refine jr_ic rfl ?_
          refine jr_zret rfl rfl rfl (Nat.zero_le _) (Nat.zero_le _) ?_
          refine jr_if_ne rfl (fun z => absurd (by decide) z) (fun _ => ?_)
          refine jr_ic rfl ?_
          refine jr_iret rfl rfl (Nat.zero_le _) (Nat.zero_le _) ?_
          first
            | exact ⟨congrArg (fun z => some (jv_i z)) (h11.trans (show nI y1 = jw_ag 1 (jw_ay (jw_L hm b (jA hm)) p (jz_nm hm b) 31 0) by rw [hag]; rfl)), (jz_Rel_s hRel0 hS5)⟩
            | (first
                | (exfalso; omega)
                | (exfalso; simp (disch := omega) only [Int32.lt_iff_toInt_lt, Int32.le_iff_toInt_le, ← Int32.toInt_inj, Int32.reduceToInt, nI_toInt] at c3 m5MDhasMonths; done)
                | (exfalso; simp (disch := omega) only [Int32.lt_iff_toInt_lt, Int32.le_iff_toInt_le, ← Int32.toInt_inj, Int32.reduceToInt, nI_toInt] at c3 m5MDhasMonths; omega))
        · refine jr_ic rfl ?_
          refine jr_goto rfl ?_
          refine jr_zret rfl rfl rfl (Nat.zero_le _) (Nat.zero_le _) ?_
          refine jr_if_ne rfl (fun _ => ?_) (fun z => absurd z (by decide))
          refine jr_aload rfl rfl ?_
          refine jr_cv0 (mc' := 0) (ms' := 0) rfl jm_MD_keepHead_n jm_MD_keepHead_f rfl rfl rfl rfl rfl rfl rfl (Nat.zero_le _) (Nat.zero_le _) ?_
          refine eB_keepHead (fun S4 hS4 hH1 => ?_)
          refine jr_aload rfl rfl ?_
          refine jr_iload rfl rfl ?_
          refine jr_cv1 (mc' := 0) (ms' := 0) rfl jm_MD_againBy_n jm_MD_againBy_f rfl rfl rfl rfl rfl rfl rfl (Nat.zero_le _) (Nat.zero_le _) ?_
          refine eB_againBy hw hS4 hmo g1 g2 hp hp1 hp2 (fun S5 k5 hS5 hf2 => ?_)
          refine jr_ist2 rfl rfl ?_
          refine jr_aload rfl rfl ?_
          refine jr_cv0 (mc' := 0) (ms' := 0) rfl jm_MD_bringHead_n jm_MD_bringHead_f rfl rfl rfl rfl rfl rfl rfl (Nat.zero_le _) (Nat.zero_le _) ?_
          refine eS_bringHead (h := hm) (fun q hq => by rw [hf2]; exact hH1 q hq) (fun q hq => jw_nxs_hi hw.2.2.1 (Or.inr (by omega))) ?_
          refine jr_iload rfl rfl ?_
          refine jr_iret rfl rfl (Nat.zero_le _) (Nat.zero_le _) ?_
          first
            | exact ⟨congrArg (fun z => some (jv_i z)) (h11.trans (show nI y1 = jw_ag 1 (jw_ay (jw_L hm b (jA hm)) p (jz_nm hm b) 31 0) by rw [hag]; rfl)), (jz_Rel_s hRel0 hS5)⟩
            | (first
                | (exfalso; omega)
                | (exfalso; simp (disch := omega) only [Int32.lt_iff_toInt_lt, Int32.le_iff_toInt_le, ← Int32.toInt_inj, Int32.reduceToInt, nI_toInt] at c3 m5MDhasMonths; done)
                | (exfalso; simp (disch := omega) only [Int32.lt_iff_toInt_lt, Int32.le_iff_toInt_le, ← Int32.toInt_inj, Int32.reduceToInt, nI_toInt] at c3 m5MDhasMonths; omega))

set_option maxHeartbeats 800000 in
set_option maxRecDepth 100000 in
theorem pd_again_o {d : Nat} {hc hm : jx_H} {x : Int32} (hRel : jz_Rel hc hm) (hx0 : ¬ x = 0) (hx1 : ¬ x = 1) : jx_Ev jm_JV_again (d + 40) 0 0 false 0 [jv_r 10 0, jv_i x] hc (fun r hc' => jx_Ev jm_MD_again (d + 40) 0 0 false 1 [jv_r 11 0, jv_i x] hm (fun r' hm' => r = r' ∧ jz_Rel hc' hm')) := by
  have hRel0 := hRel
  obtain ⟨b, r, ⟨hw, hG, hr2, hto, hsp, hR, hA, hL⟩, hTa, hFa, hLy, hTi, hLe, hBo, hAc, hWo⟩ := hRel
  have hb2 := hw.2.1
  have hnm := hw.2.2.1.1
  have hnm5 := hnm.2
  have km1 : (jh_I hc 7 r 0).toInt = (jz_nm hm b : Int) := by rw [hR.1]; exact (congrArg Int32.toInt hnm.1).trans (nI_toInt (by omega))
  have km2 : (jh_I hm 66 0 b).toInt = (jz_nm hm b : Int) := (congrArg Int32.toInt hnm.1).trans (nI_toInt (by omega))
  have km3 : (jh_I hm 66 0 b - 1).toInt = (jz_nm hm b : Int) - 1 := by rw [Int32.toInt_sub, km2, show (1 : Int32).toInt = 1 from rfl]; exact jn_sm (by omega) (by omega)
  simp only [← Int32.toInt_inj, Int32.reduceToInt] at hx0 hx1
  show jx_W (jm_JV_again, d + 40, 0, 0, false, 0, _) _ 0 0 0 [some (jv_r 10 0), some (jv_i x)] [] _
  refine jr_aload rfl rfl ?_
  refine jr_getM rfl rfl rfl rfl hto ?_
  refine jr_getI rfl rfl ?_
  refine jr_if_eq rfl (fun c3 => ?_) (fun c3 => ?_)
  · refine jr_ic rfl ?_
    refine jr_iret rfl rfl (Nat.zero_le _) (Nat.zero_le _) ?_
    show jx_W (jm_MD_again, d + 40, 0, 0, false, 1, _) _ 0 0 0 [some _, some _, none] [] _
    refine jr_iload rfl rfl ?_
    refine jr_ic rfl ?_
    refine jr_ic rfl ?_
    refine jr_cs3 (mc' := 0) (ms' := 0) rfl jm_MD_isIn_n jm_MD_isIn_f rfl rfl rfl rfl rfl (Nat.zero_le _) (Nat.zero_le _) ?_
    show jx_W (jm_MD_isIn, _, _, _, _, _, _) _ 0 0 0 [some _, some _, some _] [] _
    refine jr_iload rfl rfl ?_
    refine jr_iload rfl rfl ?_
    refine jr_icmp_lt rfl (fun m2MDisIn => ?_) (fun m2MDisIn => ?_)
    · refine jr_ic rfl ?_
      refine jr_zret rfl rfl rfl (Nat.zero_le _) (Nat.zero_le _) ?_
      refine jr_if_eq rfl (fun _ => ?_) (fun z => absurd (by decide) z)
      refine jr_ic rfl ?_
      refine jr_iret rfl rfl (Nat.zero_le _) (Nat.zero_le _) ?_
      first
        | exact ⟨rfl, hRel0⟩
        | (exfalso; omega)
        | (exfalso; simp (disch := omega) only [Int32.lt_iff_toInt_lt, Int32.le_iff_toInt_le, ← Int32.toInt_inj, Int32.reduceToInt, nI_toInt] at c3 m2MDisIn; done)
        | (exfalso; simp (disch := omega) only [Int32.lt_iff_toInt_lt, Int32.le_iff_toInt_le, ← Int32.toInt_inj, Int32.reduceToInt, nI_toInt] at c3 m2MDisIn; omega)
    · refine jr_iload rfl rfl ?_
      refine jr_iload rfl rfl ?_
      refine jr_icmp_gt rfl (fun m5MDisIn => ?_) (fun m5MDisIn => ?_)
      · refine jr_ic rfl ?_
        refine jr_zret rfl rfl rfl (Nat.zero_le _) (Nat.zero_le _) ?_
        refine jr_if_eq rfl (fun _ => ?_) (fun z => absurd (by decide) z)
        refine jr_ic rfl ?_
        refine jr_iret rfl rfl (Nat.zero_le _) (Nat.zero_le _) ?_
        first
          | exact ⟨rfl, hRel0⟩
          | (exfalso; omega)
          | (exfalso; simp (disch := omega) only [Int32.lt_iff_toInt_lt, Int32.le_iff_toInt_le, ← Int32.toInt_inj, Int32.reduceToInt, nI_toInt] at c3 m2MDisIn m5MDisIn; done)
          | (exfalso; simp (disch := omega) only [Int32.lt_iff_toInt_lt, Int32.le_iff_toInt_le, ← Int32.toInt_inj, Int32.reduceToInt, nI_toInt] at c3 m2MDisIn m5MDisIn; omega)
      · refine jr_ic rfl ?_
        refine jr_goto rfl ?_
        refine jr_zret rfl rfl rfl (Nat.zero_le _) (Nat.zero_le _) ?_
        refine jr_if_eq rfl (fun z => absurd z (by decide)) (fun _ => ?_)
        refine jr_aload rfl rfl ?_
        refine jr_cv0 (mc' := 0) (ms' := 0) rfl jm_MD_hasMonths_n jm_MD_hasMonths_f rfl rfl rfl rfl rfl rfl rfl (Nat.zero_le _) (Nat.zero_le _) ?_
        show jx_W (jm_MD_hasMonths, _, _, _, _, _, _) _ 0 0 0 [some _] [] _
        refine jr_aload rfl rfl ?_
        refine jr_getR rfl rfl rfl rfl (Or.inl rfl) ?_
        refine jr_aload rfl rfl ?_
        refine jr_getI rfl rfl ?_
        refine jr_iald (len := 2) rfl rfl hw.1 (by omega) ?_
        refine jr_if_le rfl (fun m5MDhasMonths => ?_) (fun m5MDhasMonths => ?_)
        · refine jr_ic rfl ?_
          refine jr_zret rfl rfl rfl (Nat.zero_le _) (Nat.zero_le _) ?_
          refine jr_if_ne rfl (fun z => absurd (by decide) z) (fun _ => ?_)
          refine jr_ic rfl ?_
          refine jr_iret rfl rfl (Nat.zero_le _) (Nat.zero_le _) ?_
          first
            | exact ⟨rfl, hRel0⟩
            | (exfalso; omega)
            | (exfalso; simp (disch := omega) only [Int32.lt_iff_toInt_lt, Int32.le_iff_toInt_le, ← Int32.toInt_inj, Int32.reduceToInt, nI_toInt] at c3 m2MDisIn m5MDisIn m5MDhasMonths; done)
            | (exfalso; simp (disch := omega) only [Int32.lt_iff_toInt_lt, Int32.le_iff_toInt_le, ← Int32.toInt_inj, Int32.reduceToInt, nI_toInt] at c3 m2MDisIn m5MDisIn m5MDhasMonths; omega)
        · refine jr_ic rfl ?_
          refine jr_goto rfl ?_
          refine jr_zret rfl rfl rfl (Nat.zero_le _) (Nat.zero_le _) ?_
          refine jr_if_ne rfl (fun _ => ?_) (fun z => absurd z (by decide))
          refine jr_aload rfl rfl ?_
          refine jr_cv0 (mc' := 0) (ms' := 0) rfl jm_MD_keepHead_n jm_MD_keepHead_f rfl rfl rfl rfl rfl rfl rfl (Nat.zero_le _) (Nat.zero_le _) ?_
          first
            | (exfalso; omega)
            | (exfalso; simp (disch := omega) only [Int32.lt_iff_toInt_lt, Int32.le_iff_toInt_le, ← Int32.toInt_inj, Int32.reduceToInt, nI_toInt] at c3 m2MDisIn m5MDisIn m5MDhasMonths; done)
            | (exfalso; simp (disch := omega) only [Int32.lt_iff_toInt_lt, Int32.le_iff_toInt_le, ← Int32.toInt_inj, Int32.reduceToInt, nI_toInt] at c3 m2MDisIn m5MDisIn m5MDhasMonths; omega)
  · refine jr_iload rfl rfl ?_
    refine jr_if_lt rfl (fun c5 => ?_) (fun c5 => ?_)
    · refine jr_ic rfl ?_
      refine jr_iret rfl rfl (Nat.zero_le _) (Nat.zero_le _) ?_
      show jx_W (jm_MD_again, d + 40, 0, 0, false, 1, _) _ 0 0 0 [some _, some _, none] [] _
      refine jr_iload rfl rfl ?_
      refine jr_ic rfl ?_
      refine jr_ic rfl ?_
      refine jr_cs3 (mc' := 0) (ms' := 0) rfl jm_MD_isIn_n jm_MD_isIn_f rfl rfl rfl rfl rfl (Nat.zero_le _) (Nat.zero_le _) ?_
      show jx_W (jm_MD_isIn, _, _, _, _, _, _) _ 0 0 0 [some _, some _, some _] [] _
      refine jr_iload rfl rfl ?_
      refine jr_iload rfl rfl ?_
      refine jr_icmp_lt rfl (fun m2MDisIn => ?_) (fun m2MDisIn => ?_)
      · refine jr_ic rfl ?_
        refine jr_zret rfl rfl rfl (Nat.zero_le _) (Nat.zero_le _) ?_
        refine jr_if_eq rfl (fun _ => ?_) (fun z => absurd (by decide) z)
        refine jr_ic rfl ?_
        refine jr_iret rfl rfl (Nat.zero_le _) (Nat.zero_le _) ?_
        first
          | exact ⟨rfl, hRel0⟩
          | (exfalso; omega)
          | (exfalso; simp (disch := omega) only [Int32.lt_iff_toInt_lt, Int32.le_iff_toInt_le, ← Int32.toInt_inj, Int32.reduceToInt, nI_toInt] at c3 c5 m2MDisIn; done)
          | (exfalso; simp (disch := omega) only [Int32.lt_iff_toInt_lt, Int32.le_iff_toInt_le, ← Int32.toInt_inj, Int32.reduceToInt, nI_toInt] at c3 c5 m2MDisIn; omega)
      · refine jr_iload rfl rfl ?_
        refine jr_iload rfl rfl ?_
        refine jr_icmp_gt rfl (fun m5MDisIn => ?_) (fun m5MDisIn => ?_)
        · refine jr_ic rfl ?_
          refine jr_zret rfl rfl rfl (Nat.zero_le _) (Nat.zero_le _) ?_
          refine jr_if_eq rfl (fun _ => ?_) (fun z => absurd (by decide) z)
          refine jr_ic rfl ?_
          refine jr_iret rfl rfl (Nat.zero_le _) (Nat.zero_le _) ?_
          first
            | exact ⟨rfl, hRel0⟩
            | (exfalso; omega)
            | (exfalso; simp (disch := omega) only [Int32.lt_iff_toInt_lt, Int32.le_iff_toInt_le, ← Int32.toInt_inj, Int32.reduceToInt, nI_toInt] at c3 c5 m2MDisIn m5MDisIn; done)
            | (exfalso; simp (disch := omega) only [Int32.lt_iff_toInt_lt, Int32.le_iff_toInt_le, ← Int32.toInt_inj, Int32.reduceToInt, nI_toInt] at c3 c5 m2MDisIn m5MDisIn; omega)
        · refine jr_ic rfl ?_
          refine jr_goto rfl ?_
          refine jr_zret rfl rfl rfl (Nat.zero_le _) (Nat.zero_le _) ?_
          refine jr_if_eq rfl (fun z => absurd z (by decide)) (fun _ => ?_)
          refine jr_aload rfl rfl ?_
          refine jr_cv0 (mc' := 0) (ms' := 0) rfl jm_MD_hasMonths_n jm_MD_hasMonths_f rfl rfl rfl rfl rfl rfl rfl (Nat.zero_le _) (Nat.zero_le _) ?_
          show jx_W (jm_MD_hasMonths, _, _, _, _, _, _) _ 0 0 0 [some _] [] _
          refine jr_aload rfl rfl ?_
          refine jr_getR rfl rfl rfl rfl (Or.inl rfl) ?_
          refine jr_aload rfl rfl ?_
          refine jr_getI rfl rfl ?_
          refine jr_iald (len := 2) rfl rfl hw.1 (by omega) ?_
          refine jr_if_le rfl (fun m5MDhasMonths => ?_) (fun m5MDhasMonths => ?_)
          · refine jr_ic rfl ?_
            refine jr_zret rfl rfl rfl (Nat.zero_le _) (Nat.zero_le _) ?_
            refine jr_if_ne rfl (fun z => absurd (by decide) z) (fun _ => ?_)
            refine jr_ic rfl ?_
            refine jr_iret rfl rfl (Nat.zero_le _) (Nat.zero_le _) ?_
            first
              | exact ⟨rfl, hRel0⟩
              | (exfalso; omega)
              | (exfalso; simp (disch := omega) only [Int32.lt_iff_toInt_lt, Int32.le_iff_toInt_le, ← Int32.toInt_inj, Int32.reduceToInt, nI_toInt] at c3 c5 m2MDisIn m5MDisIn m5MDhasMonths; done)
              | (exfalso; simp (disch := omega) only [Int32.lt_iff_toInt_lt, Int32.le_iff_toInt_le, ← Int32.toInt_inj, Int32.reduceToInt, nI_toInt] at c3 c5 m2MDisIn m5MDisIn m5MDhasMonths; omega)
          · refine jr_ic rfl ?_
            refine jr_goto rfl ?_
            refine jr_zret rfl rfl rfl (Nat.zero_le _) (Nat.zero_le _) ?_
            refine jr_if_ne rfl (fun _ => ?_) (fun z => absurd z (by decide))
            refine jr_aload rfl rfl ?_
            refine jr_cv0 (mc' := 0) (ms' := 0) rfl jm_MD_keepHead_n jm_MD_keepHead_f rfl rfl rfl rfl rfl rfl rfl (Nat.zero_le _) (Nat.zero_le _) ?_
            first
              | (exfalso; omega)
              | (exfalso; simp (disch := omega) only [Int32.lt_iff_toInt_lt, Int32.le_iff_toInt_le, ← Int32.toInt_inj, Int32.reduceToInt, nI_toInt] at c3 c5 m2MDisIn m5MDisIn m5MDhasMonths; done)
              | (exfalso; simp (disch := omega) only [Int32.lt_iff_toInt_lt, Int32.le_iff_toInt_le, ← Int32.toInt_inj, Int32.reduceToInt, nI_toInt] at c3 c5 m2MDisIn m5MDisIn m5MDhasMonths; omega)
    · refine jr_iload rfl rfl ?_
      refine jr_ic rfl ?_
      refine jr_icmp_gt rfl (fun c8 => ?_) (fun c8 => ?_)
      · refine jr_ic rfl ?_
        refine jr_iret rfl rfl (Nat.zero_le _) (Nat.zero_le _) ?_
        show jx_W (jm_MD_again, d + 40, 0, 0, false, 1, _) _ 0 0 0 [some _, some _, none] [] _
        refine jr_iload rfl rfl ?_
        refine jr_ic rfl ?_
        refine jr_ic rfl ?_
        refine jr_cs3 (mc' := 0) (ms' := 0) rfl jm_MD_isIn_n jm_MD_isIn_f rfl rfl rfl rfl rfl (Nat.zero_le _) (Nat.zero_le _) ?_
        show jx_W (jm_MD_isIn, _, _, _, _, _, _) _ 0 0 0 [some _, some _, some _] [] _
        refine jr_iload rfl rfl ?_
        refine jr_iload rfl rfl ?_
        refine jr_icmp_lt rfl (fun m2MDisIn => ?_) (fun m2MDisIn => ?_)
        · refine jr_ic rfl ?_
          refine jr_zret rfl rfl rfl (Nat.zero_le _) (Nat.zero_le _) ?_
          refine jr_if_eq rfl (fun _ => ?_) (fun z => absurd (by decide) z)
          refine jr_ic rfl ?_
          refine jr_iret rfl rfl (Nat.zero_le _) (Nat.zero_le _) ?_
          first
            | exact ⟨rfl, hRel0⟩
            | (exfalso; omega)
            | (exfalso; simp (disch := omega) only [Int32.lt_iff_toInt_lt, Int32.le_iff_toInt_le, ← Int32.toInt_inj, Int32.reduceToInt, nI_toInt] at c3 c5 c8 m2MDisIn; done)
            | (exfalso; simp (disch := omega) only [Int32.lt_iff_toInt_lt, Int32.le_iff_toInt_le, ← Int32.toInt_inj, Int32.reduceToInt, nI_toInt] at c3 c5 c8 m2MDisIn; omega)
        · refine jr_iload rfl rfl ?_
          refine jr_iload rfl rfl ?_
          refine jr_icmp_gt rfl (fun m5MDisIn => ?_) (fun m5MDisIn => ?_)
          · refine jr_ic rfl ?_
            refine jr_zret rfl rfl rfl (Nat.zero_le _) (Nat.zero_le _) ?_
            refine jr_if_eq rfl (fun _ => ?_) (fun z => absurd (by decide) z)
            refine jr_ic rfl ?_
            refine jr_iret rfl rfl (Nat.zero_le _) (Nat.zero_le _) ?_
            first
              | exact ⟨rfl, hRel0⟩
              | (exfalso; omega)
              | (exfalso; simp (disch := omega) only [Int32.lt_iff_toInt_lt, Int32.le_iff_toInt_le, ← Int32.toInt_inj, Int32.reduceToInt, nI_toInt] at c3 c5 c8 m2MDisIn m5MDisIn; done)
              | (exfalso; simp (disch := omega) only [Int32.lt_iff_toInt_lt, Int32.le_iff_toInt_le, ← Int32.toInt_inj, Int32.reduceToInt, nI_toInt] at c3 c5 c8 m2MDisIn m5MDisIn; omega)
          · refine jr_ic rfl ?_
            refine jr_goto rfl ?_
            refine jr_zret rfl rfl rfl (Nat.zero_le _) (Nat.zero_le _) ?_
            refine jr_if_eq rfl (fun z => absurd z (by decide)) (fun _ => ?_)
            refine jr_aload rfl rfl ?_
            refine jr_cv0 (mc' := 0) (ms' := 0) rfl jm_MD_hasMonths_n jm_MD_hasMonths_f rfl rfl rfl rfl rfl rfl rfl (Nat.zero_le _) (Nat.zero_le _) ?_
            show jx_W (jm_MD_hasMonths, _, _, _, _, _, _) _ 0 0 0 [some _] [] _
            refine jr_aload rfl rfl ?_
            refine jr_getR rfl rfl rfl rfl (Or.inl rfl) ?_
            refine jr_aload rfl rfl ?_
            refine jr_getI rfl rfl ?_
            refine jr_iald (len := 2) rfl rfl hw.1 (by omega) ?_
            refine jr_if_le rfl (fun m5MDhasMonths => ?_) (fun m5MDhasMonths => ?_)
            · refine jr_ic rfl ?_
              refine jr_zret rfl rfl rfl (Nat.zero_le _) (Nat.zero_le _) ?_
              refine jr_if_ne rfl (fun z => absurd (by decide) z) (fun _ => ?_)
              refine jr_ic rfl ?_
              refine jr_iret rfl rfl (Nat.zero_le _) (Nat.zero_le _) ?_
              first
                | exact ⟨rfl, hRel0⟩
                | (exfalso; omega)
                | (exfalso; simp (disch := omega) only [Int32.lt_iff_toInt_lt, Int32.le_iff_toInt_le, ← Int32.toInt_inj, Int32.reduceToInt, nI_toInt] at c3 c5 c8 m2MDisIn m5MDisIn m5MDhasMonths; done)
                | (exfalso; simp (disch := omega) only [Int32.lt_iff_toInt_lt, Int32.le_iff_toInt_le, ← Int32.toInt_inj, Int32.reduceToInt, nI_toInt] at c3 c5 c8 m2MDisIn m5MDisIn m5MDhasMonths; omega)
            · refine jr_ic rfl ?_
              refine jr_goto rfl ?_
              refine jr_zret rfl rfl rfl (Nat.zero_le _) (Nat.zero_le _) ?_
              refine jr_if_ne rfl (fun _ => ?_) (fun z => absurd z (by decide))
              refine jr_aload rfl rfl ?_
              refine jr_cv0 (mc' := 0) (ms' := 0) rfl jm_MD_keepHead_n jm_MD_keepHead_f rfl rfl rfl rfl rfl rfl rfl (Nat.zero_le _) (Nat.zero_le _) ?_
              first
                | (exfalso; omega)
                | (exfalso; simp (disch := omega) only [Int32.lt_iff_toInt_lt, Int32.le_iff_toInt_le, ← Int32.toInt_inj, Int32.reduceToInt, nI_toInt] at c3 c5 c8 m2MDisIn m5MDisIn m5MDhasMonths; done)
                | (exfalso; simp (disch := omega) only [Int32.lt_iff_toInt_lt, Int32.le_iff_toInt_le, ← Int32.toInt_inj, Int32.reduceToInt, nI_toInt] at c3 c5 c8 m2MDisIn m5MDisIn m5MDhasMonths; omega)
      · refine jr_aload rfl rfl ?_
        refine jr_getR rfl rfl rfl rfl (Or.inl rfl) ?_
        refine jr_aload rfl rfl ?_
        refine jr_getR rfl rfl rfl rfl (Or.inl rfl) ?_
        refine jr_cv1 (mc' := 0) (ms' := 0) rfl jm_For_findAgain_n jm_For_findAgain_f rfl rfl rfl rfl rfl rfl rfl (Nat.zero_le _) (Nat.zero_le _) ?_
        first
          | (exfalso; omega)
          | (exfalso; simp (disch := omega) only [Int32.lt_iff_toInt_lt, Int32.le_iff_toInt_le, ← Int32.toInt_inj, Int32.reduceToInt, nI_toInt] at c3 c5 c8; done)
          | (exfalso; simp (disch := omega) only [Int32.lt_iff_toInt_lt, Int32.le_iff_toInt_le, ← Int32.toInt_inj, Int32.reduceToInt, nI_toInt] at c3 c5 c8; omega)

theorem pd_again {d : Nat} {hc hm : jx_H} {x : Int32} (hRel : jz_Rel hc hm) : jx_Ev jm_JV_again (d + 40) 0 0 false 0 [jv_r 10 0, jv_i x] hc (fun r hc' => jx_Ev jm_MD_again (d + 40) 0 0 false 1 [jv_r 11 0, jv_i x] hm (fun r' hm' => r = r' ∧ jz_Rel hc' hm')) := by
  by_cases h0 : x = 0
  · subst h0; exact pd_again_0 hRel
  by_cases h1 : x = 1
  · subst h1; exact pd_again_1 hRel
  exact pd_again_o hRel h0 h1
