theorem jw_re_eq {hm : jx_H} {b w : Nat} {l : Int32} {a : jw_A} (hw : a 0 = nI w) (hw2 : w ≤ 511) : jw_re hm b l a = jw_gb (jC hm b) (jz_nd hm b) l (upd a (37 + w) l) := by
  unfold jw_re; rw [jn_1 hw (by omega)]
theorem jz_A_upd {np nm q : Nat} {a : jw_A} {l : Int32} (h : jz_A np nm a) (hnp : np ≤ 5) (hq : 12 ≤ q) : jz_A np nm (upd a q l) := by
  obtain ⟨⟨w, t, h1, h2, h3⟩, h4⟩ := h
  refine ⟨⟨w, t, (jg_un (by omega)).trans h1, (jg_un (by omega)).trans h2, h3⟩, fun p hp => ?_⟩
  obtain ⟨v, hv⟩ := h4 p hp
  exact ⟨v, (jg_un (by omega)).trans hv.1, hv.2⟩
theorem jz_G_re {hm : jx_H} {b w v : Nat} {a : jw_A} (hR0 : jz_R hm b) (hmo : ¬ jC hm b 0 0 = 0) (hG : jz_G hm b a) (hw : a 0 = nI w) (hw2 : w + 1 ≤ 300) (hv : v ≤ 31) :
    jz_G hm b (jw_re hm b (nI v) a) ∧ jw_re hm b (nI v) a 0 = nI (w + 1) ∧ (∀ j, j < w → jw_re hm b (nI v) a (37 + j) = a (37 + j)) ∧ jw_re hm b (nI v) a (37 + w) = nI v ∧ (∀ k, 37 ≤ k → k ≠ 37 + w → jw_re hm b (nI v) a k = a k) := by
  obtain ⟨hA, w', g1, g2, g3, g4⟩ := hG
  have e : w' = w := jn_eq (g1.symm.trans hw) (by omega) (by omega)
  subst e
  rw [jw_re_eq hw (by omega)]
  have hnp := hR0.2.1.2
  obtain ⟨q1, q2⟩ := jz_A_gb (v := v) (a := upd a (37 + w') (nI v)) hR0 hmo (jz_A_upd hA hnp (by omega)) ((jg_un (by omega)).trans hw) (by omega) hv
  have h1 : ∀ j, j < w' → jw_gb (jC hm b) (jz_nd hm b) (nI v) (upd a (37 + w') (nI v)) (37 + j) = a (37 + j) := fun j hj => (jw_gb_hi hR0 (Or.inr (by omega))).trans (jg_un (by omega))
  have h2 : jw_gb (jC hm b) (jz_nd hm b) (nI v) (upd a (37 + w') (nI v)) (37 + w') = nI v := (jw_gb_hi hR0 (Or.inr (by omega))).trans (jg_us _ _ _)
  refine ⟨⟨q1, w' + 1, q2, hw2, ?_, fun j hj => ?_⟩, q2, h1, h2, fun k hk hk2 => (jw_gb_hi hR0 (Or.inr (by omega))).trans (jg_un hk2)⟩
  · rw [jw_sum, h2, jw_gb_x hR0, if_neg (by decide), if_pos rfl, jg_un (by omega), g3]
    exact congrArg (· + nI v) (jw_sum_congr (fun j hj => (h1 j hj).symm))
  · rcases Nat.lt_succ_iff_lt_or_eq.mp hj with e2 | e2
    · rw [h1 j e2]; exact g4 j e2
    · rw [e2, h2]; exact ⟨v, rfl, hv⟩
theorem jz_W_G {hm : jx_H} {b : Nat} {a : jw_A} (hB : jz_B hm b) (hG : jz_G hm b a) : jz_W (jw_h hm a) b := jz_Wa hB hG.1
theorem jz_G_ru {hm : jx_H} {b : Nat} (hB : jz_B hm b) (hmo : ¬ jC hm b 0 0 = 0) : ∀ {n w : Nat} {a : jw_A}, jz_G hm b a → a 0 = nI w → w + n ≤ 300 → jz_G hm b (jw_ru hm b n a) ∧ jw_ru hm b n a 0 = nI (w + n) ∧ (∀ j, j < w → jw_ru hm b n a (37 + j) = a (37 + j)) ∧ (∀ k, 337 ≤ k → jw_ru hm b n a k = a k)
  | 0, w, a, hG, hw, _ => ⟨hG, hw, fun _ _ => rfl, fun _ _ => rfl⟩
  | n + 1, w, a, hG, hw, hn => by
    obtain ⟨v, hv, hv2⟩ := jw_counted_in (jz_W_G hB hG) hmo
    rw [jw_ru, show jw_counted (ju_I hm 98 0 a) b = nI v from hv]
    obtain ⟨q1, q2, q3, -, q5⟩ := jz_G_re hB.2.2 hmo hG hw (by omega) hv2
    obtain ⟨i1, i2, i3, i4⟩ := jz_G_ru hB hmo q1 q2 (n := n) (by omega)
    exact ⟨i1, by rw [i2, Nat.add_assoc, Nat.add_comm 1], fun j hj => (i3 j (by omega)).trans (q3 j hj), fun k hk => (i4 k hk).trans (q5 k (by omega) (by omega))⟩
theorem jy_T_upd {n : Nat} {T : Nat → Nat → Int32} {a : jw_A} {q : Nat} {l : Int32} (h : jy_T n T a) (hq : 37 ≤ q) : jy_T n T (upd a q l) := by
  obtain ⟨h1, h2, h3, h4⟩ := h
  refine ⟨h1.trans (jg_un (by omega)).symm, h2.trans (jg_un (by omega)).symm, fun p hp => ⟨(h3 p hp).1.trans (jg_un (by omega)).symm, fun q2 => ((h3 p hp).2 q2).trans (jg_un (by omega)).symm⟩, fun d hd => ⟨(h4 d hd).1.trans (jg_un (by omega)).symm, (h4 d hd).2.1.trans (jg_un (by omega)).symm, ?_⟩⟩
  rw [jg_un (show (36 : Nat) ≠ q by omega)]
  exact (h4 d hd).2.2
set_option maxHeartbeats 800000 in
set_option maxRecDepth 100000 in
theorem lp_JV_letCome {d n0 : Nat} {Q : Option jx_V → jx_H → Prop} {h hm : jx_H} {b r n kc : Nat} {S T : Nat → Nat → Int32} (k w : Nat) (a : jw_A) (hB : jz_B hm b) (hmo : ¬ jC hm b 0 0 = 0) (hR : jy_R h r hm b) (hG : jz_G hm b a) (hw : a 0 = nI w) (hT : jy_T (jy_np h r) T a) (hL : ∀ j, j < w → T 31 j = a (37 + j)) (hn60 : n ≤ 60) (hk : k ≤ n) (hwn : w + (n - k) ≤ 300) (kk : ∀ (T' S' : Nat → Nat → Int32) (kc' : Nat), jy_T (jy_np h r) T' (jw_ru hm b (n - k) a) → (∀ j, j < w + (n - k) → T' 31 j = jw_ru hm b (n - k) a (37 + j)) → Q none (jP (jK h 0 T' (r + 1)) S' kc'))  : jx_W (jm_JV_letCome, d + 7, 0, 0, false, 0, n0) Q 0 0 2 [some (jv_r 10 0), some (jv_i (nI n)), some (jv_i (nI k))] [] (jP (jK h 0 T (r + 1)) S kc) := by
  refine jr_iload rfl rfl ?_
  refine jr_iload rfl rfl ?_
  refine jr_icmp_ge rfl (fun c4 => ?_) (fun c4 => ?_)
  · refine jr_vret rfl rfl (Nat.zero_le _) (Nat.zero_le _) ?_
    have hk2 : n ≤ k := jn_le (show nI n ≤ nI k from c4) (by omega) (by omega)
    rw [show n - k = 0 by omega] at kk
    exact kk T S kc hT (fun j hj => hL j (by omega))
  · have hk1 : k < n := jn_nle (show ¬ nI n ≤ nI k from c4) (by omega) (by omega)
    have hn : n - k = (n - (k + 1)) + 1 := by omega
    refine jr_aload rfl rfl ?_
    refine jr_getR rfl rfl rfl rfl (Or.inl rfl) ?_
    refine jr_aload rfl rfl ?_
    refine jr_getR rfl rfl rfl rfl (Or.inl rfl) ?_
    refine jr_aload rfl rfl ?_
    refine jr_getR rfl rfl rfl rfl (Or.inl rfl) ?_
    refine jr_cv1 (mc' := 0) (ms' := 0) rfl jm_Poll_resultFor_n jm_Poll_resultFor_f rfl rfl rfl rfl rfl rfl rfl (Nat.zero_le _) (Nat.zero_le _) ?_
    refine ev_Poll_resultFor (c := 0) (r := r) (hm := jw_h hm a) (b := b) (h := jK h 0 T (r + 1)) (jz_W_G hB hG) ⟨rfl, hT.1, hT.2.1, hT.2.2.1, hT.2.2.2⟩ hR hmo (fun S1 => ?_)
    refine jr_cv1 (mc' := 0) (ms' := 0) rfl jm_Cal_comes_n jm_Cal_comes_f rfl rfl rfl rfl rfl rfl rfl (Nat.zero_le _) (Nat.zero_le _) ?_
    obtain ⟨v, hv, hv2⟩ := jw_counted_in (jz_W_G hB hG) hmo
    obtain ⟨q1, q2, q3, q4, q5⟩ := jz_G_re hB.2.2 hmo hG hw (by omega) hv2
    rw [← hv] at q1 q2 q3 q4
    refine ev_comes0 (hm := hm) (b := b) (w := w) (a := upd a (37 + w) (jw_counted (jw_h hm a) b)) hB.2.2 hR hmo (jy_T_upd hT (by omega)) (by rw [hv]; exact nI_pos' (by omega)) ((jg_un (by omega)).trans hw) (by omega) (fun T1 hT1 hL1 => ?_)
    rw [← jw_re_eq hw (by omega)] at hT1
    refine jr_iinc2 rfl rfl ?_
    refine jr_goto rfl ?_
    rw [jn_S]
    refine lp_JV_letCome (T := T1) (k + 1) (w + 1) _ hB hmo hR q1 q2 hT1 (fun j hj => ?_) hn60 (by omega) (by omega) (fun T' S' kc' h1 h2 => ?_)
    · rw [hL1]
      by_cases e : j = w
      · rw [e, jg_us]; exact q4.symm
      · rw [jg_un e, hL j (by omega)]; exact (q3 j (by omega)).symm
    · have := kk T' S' kc'
      rw [hn, jw_ru] at this
      exact this h1 (fun j hj => h2 j (by omega))
termination_by n - k
decreasing_by all_goals omega

set_option maxHeartbeats 800000 in
set_option maxRecDepth 100000 in
theorem lp_MD_run {d n0 : Nat} {Q : Option jx_V → jx_H → Prop} {hm : jx_H} {b n : Nat} {S : Nat → Nat → Int32} (k w : Nat) (a : jw_A) (hB : jz_B hm b) (hS : jz_S hm S) (hmo : ¬ jC hm b 0 0 = 0) (hG : jz_G hm b a) (hw : a 0 = nI w) (hn60 : n ≤ 60) (hk : k ≤ n) (hwn : w + (n - k) ≤ 300) (kk : ∀ (S' : Nat → Nat → Int32), jz_S hm S' → Q (some (jv_i (nI (w + (n - k))))) (jS (jw_h hm (jw_ru hm b (n - k) a)) S'))  : jx_W (jm_MD_run, d + 9, 0, 0, false, 1, n0) Q 0 0 22 [some (jv_r 11 0), some (jv_i (nI n)), some (jv_i (nI k))] [] (jS (jw_h hm a) S) := by
  refine jr_iload rfl rfl ?_
  refine jr_iload rfl rfl ?_
  refine jr_icmp_ge rfl (fun c24 => ?_) (fun c24 => ?_)
  · refine jr_aload rfl rfl ?_
    refine jr_getR rfl rfl rfl rfl (Or.inl rfl) ?_
    refine jr_ic rfl ?_
    refine jr_iald (len := 337) rfl rfl (show _ = nI 0 from rfl) (by decide) ?_
    refine jr_iret rfl rfl (Nat.zero_le _) (Nat.zero_le _) ?_
    have hk2 : n ≤ k := jn_le (show nI n ≤ nI k from c24) (by omega) (by omega)
    have e : n - k = 0 := by omega
    rw [e] at kk
    rw [show jh_I (jS (jw_h hm a) S) 98 0 0 = nI w from hw]
    exact kk S hS
  · have hk1 : k < n := jn_nle (show ¬ nI n ≤ nI k from c24) (by omega) (by omega)
    have hn : n - k = (n - (k + 1)) + 1 := by omega
    refine jr_aload rfl rfl ?_
    refine jr_aload rfl rfl ?_
    refine jr_cv0 (mc' := 0) (ms' := 0) rfl jm_MD_countedNow_n jm_MD_countedNow_f rfl rfl rfl rfl rfl rfl rfl (Nat.zero_le _) (Nat.zero_le _) ?_
    refine eS_countedNow (b := b) (jz_W_G hB hG) hS hmo (fun S1 hS1 hf1 => ?_)
    obtain ⟨v, hv, hv2⟩ := jw_counted_in (jz_W_G hB hG) hmo
    obtain ⟨q1, q2, q3, q4, q5⟩ := jz_G_re hB.2.2 hmo hG hw (by omega) hv2
    rw [← hv] at q1 q2 q3 q4
    
    refine jr_cv1 (mc' := 0) (ms' := 0) rfl jm_MD_real_n jm_MD_real_f rfl rfl rfl rfl rfl rfl rfl (Nat.zero_le _) (Nat.zero_le _) ?_
    show jx_W (jm_MD_real, _, _, _, _, _, _) _ 0 0 0 [some _, some _] [] _
    refine jr_aload rfl rfl ?_
    refine jr_getR rfl rfl rfl rfl (Or.inl rfl) ?_
    refine jr_ic rfl ?_
    refine jr_aload rfl rfl ?_
    refine jr_getR rfl rfl rfl rfl (Or.inl rfl) ?_
    refine jr_ic rfl ?_
    refine jr_iald (len := 337) rfl rfl (show _ = nI 0 from rfl) (by decide) ?_
    rw [show jh_I (jS (jw_h hm a) S1) 98 0 0 = nI w from hw]
    refine jr_iadd rfl ?_
    refine jr_iload rfl rfl ?_
    refine jr_iast (len := 337) rfl rfl (jn_add (show _ = nI 37 from rfl) rfl) (by omega) ?_
    rw [jS_98]
    refine jr_aload rfl rfl ?_
    refine jr_iload rfl rfl ?_
    refine jr_cv1 (mc' := 0) (ms' := 0) rfl jm_MD_goesBy_n jm_MD_goesBy_f rfl rfl rfl rfl rfl rfl rfl (Nat.zero_le _) (Nat.zero_le _) ?_
    refine eS_goesBy (b := b) (h := hm) hB hS1 hmo ?_
    rw [show jh_I (jS (jw_h hm a) S1) 98 0 = a from rfl, ← jw_re_eq hw (by omega)]
    refine jr_vret rfl rfl (Nat.zero_le _) (Nat.zero_le _) ?_
    refine jr_iinc2 rfl rfl ?_
    refine jr_goto rfl ?_
    rw [jn_S]
    refine lp_MD_run (k + 1) (w + 1) _ hB hS1 hmo q1 q2 hn60 (by omega) (by omega) (fun S' hS' => ?_)
    have := kk S' hS'
    rw [hn, jw_ru] at this
    rw [show w + 1 + (n - (k + 1)) = w + (n - (k + 1) + 1) by omega]
    exact this
termination_by n - k
decreasing_by all_goals omega

def jk_q (a : Nat) : Bool := a == 0 || a == 48 || a == 49 || a == 50 || a == 51
def jQ (h : jx_H) (K : Nat → Nat → Int32) : jx_H := (fun a b => if jk_q a = true ∧ b = 0 then K a else h.1 a b, h.2)
theorem jQ_u {h : jx_H} {S : Nat → Nat → Int32} {a : Nat} {f : Nat → Int32} (ha : jk_q a = true) : ju_I (jQ h S) a 0 f = jQ h (fun k => if k = a then f else S k) := by
  unfold ju_I jQ
  refine congrArg (·, h.2) ?_
  funext x y
  dsimp only
  by_cases e : x = a ∧ y = 0
  · rw [if_pos e, if_pos ⟨by rw [e.1]; exact ha, e.2⟩, if_pos e.1]
  · rw [if_neg e]
    by_cases e2 : jk_q x = true ∧ y = 0
    · rw [if_pos e2, if_pos e2, if_neg (fun z => e ⟨z, e2.2⟩)]
    · rw [if_neg e2, if_neg e2]
theorem jQ_self (h : jx_H) : jQ h (fun a => jh_I h a 0) = h := by
  unfold jQ jh_I
  refine Prod.ext ?_ rfl
  funext x y
  dsimp only
  split
  · rename_i e; rw [e.2]
  · rfl
theorem jQ_0 (h : jx_H) (S : Nat → Nat → Int32) (f : Nat → Int32) : ju_I (jQ h S) 0 0 f = jQ h (fun k => if k = 0 then f else S k) := jQ_u rfl
theorem jQ_r0 (h : jx_H) (S : Nat → Nat → Int32) : jh_I (jQ h S) 0 0 = S 0 := rfl
theorem jQ_48 (h : jx_H) (S : Nat → Nat → Int32) (f : Nat → Int32) : ju_I (jQ h S) 48 0 f = jQ h (fun k => if k = 48 then f else S k) := jQ_u rfl
theorem jQ_r48 (h : jx_H) (S : Nat → Nat → Int32) : jh_I (jQ h S) 48 0 = S 48 := rfl
theorem jQ_49 (h : jx_H) (S : Nat → Nat → Int32) (f : Nat → Int32) : ju_I (jQ h S) 49 0 f = jQ h (fun k => if k = 49 then f else S k) := jQ_u rfl
theorem jQ_r49 (h : jx_H) (S : Nat → Nat → Int32) : jh_I (jQ h S) 49 0 = S 49 := rfl
theorem jQ_50 (h : jx_H) (S : Nat → Nat → Int32) (f : Nat → Int32) : ju_I (jQ h S) 50 0 f = jQ h (fun k => if k = 50 then f else S k) := jQ_u rfl
theorem jQ_r50 (h : jx_H) (S : Nat → Nat → Int32) : jh_I (jQ h S) 50 0 = S 50 := rfl
theorem jQ_51 (h : jx_H) (S : Nat → Nat → Int32) (f : Nat → Int32) : ju_I (jQ h S) 51 0 f = jQ h (fun k => if k = 51 then f else S k) := jQ_u rfl
theorem jQ_r51 (h : jx_H) (S : Nat → Nat → Int32) : jh_I (jQ h S) 51 0 = S 51 := rfl
set_option maxHeartbeats 800000 in
set_option maxRecDepth 100000 in
theorem ev_Acts_note0 {d : Nat} {h : jx_H} {Q : Option jx_V → jx_H → Prop} {n s : Nat} {x y z u : Int32} {K : Nat → Nat → Int32} (hn : K 0 4 = nI n) (hn2 : n < 40) (hs : s = 0) (k : ∀ K' : Nat → Nat → Int32, (K' 0 4 = nI (n + 1 - s) ∧ K' 0 5 = nI (n + 1 - s)) → (∀ j, j < n - s → K' 48 j = K 48 (j + s) ∧ K' 49 j = K 49 (j + s) ∧ K' 50 j = K 50 (j + s) ∧ K' 51 j = K 51 (j + s)) → (K' 48 (n - s) = x ∧ K' 49 (n - s) = y ∧ K' 50 (n - s) = z ∧ K' 51 (n - s) = u) → Q none (jQ h K'))  : jx_Ev jm_Acts_note (d + 2) 0 0 false 0 [jv_r 0 0, jv_i x, jv_i y, jv_i z, jv_i u] (jQ h K) Q := by
  show jx_W (jm_Acts_note, d + 2, 0, 0, false, 0, _) Q 0 0 0 [some (jv_r 0 0), some (jv_i x), some (jv_i y), some (jv_i z), some (jv_i u)] [] _
  refine jr_aload rfl rfl ?_
  refine jr_getI rfl rfl ?_
  rw [show jh_I (jQ h K) 0 0 4 = nI n from hn]
  refine jr_ic rfl ?_
  refine jr_icmp_lt rfl (fun _ => ?_) (fun z => absurd (nI_lt (a := n) (b := 40) hn2 (by decide)) z)
  refine jr_aload rfl rfl ?_
  refine jr_getR rfl rfl rfl rfl (Or.inl rfl) ?_
  refine jr_aload rfl rfl ?_
  refine jr_getI rfl rfl ?_
  refine jr_iload rfl rfl ?_
  refine jr_iast (len := 40) rfl rfl hn (by omega) ?_
  refine jr_aload rfl rfl ?_
  refine jr_getR rfl rfl rfl rfl (Or.inl rfl) ?_
  refine jr_aload rfl rfl ?_
  refine jr_getI rfl rfl ?_
  refine jr_iload rfl rfl ?_
  refine jr_iast (len := 40) rfl rfl hn (by omega) ?_
  refine jr_aload rfl rfl ?_
  refine jr_getR rfl rfl rfl rfl (Or.inl rfl) ?_
  refine jr_aload rfl rfl ?_
  refine jr_getI rfl rfl ?_
  refine jr_iload rfl rfl ?_
  refine jr_iast (len := 40) rfl rfl hn (by omega) ?_
  refine jr_aload rfl rfl ?_
  refine jr_getR rfl rfl rfl rfl (Or.inl rfl) ?_
  refine jr_aload rfl rfl ?_
  refine jr_getI rfl rfl ?_
  refine jr_iload rfl rfl ?_
  refine jr_iast (len := 40) rfl rfl hn (by omega) ?_
  refine jr_aload rfl rfl ?_
  refine jr_dup_r rfl ?_
  refine jr_getI rfl rfl ?_
  refine jr_ic rfl ?_
  refine jr_iadd rfl ?_
  refine jr_putI rfl rfl ?_
  refine jr_aload rfl rfl ?_
  refine jr_aload rfl rfl ?_
  refine jr_getI rfl rfl ?_
  refine jr_putI rfl rfl ?_
  refine jr_vret rfl rfl (Nat.zero_le _) (Nat.zero_le _) ?_
  subst hs
  simp only [jQ_0, jQ_r0, jQ_48, jQ_r48, jQ_49, jQ_r49, jQ_50, jQ_r50, jQ_51, jQ_r51]
  have e : K 0 4 + 1 = nI (n + 1) := by rw [hn, ← nI_1]
  exact k _ ⟨e, e⟩ (fun j hj => ⟨jg_un (by omega), jg_un (by omega), jg_un (by omega), jg_un (by omega)⟩) ⟨jg_us _ _ _, jg_us _ _ _, jg_us _ _ _, jg_us _ _ _⟩

set_option maxHeartbeats 800000 in
set_option maxRecDepth 100000 in
theorem ev_drop48 {d : Nat} {h : jx_H} {Q : Option jx_V → jx_H → Prop} {K : Nat → Nat → Int32} (k : ∀ K' : Nat → Nat → Int32, (∀ a, a ≠ 48 → K' a = K a) → (∀ j, j < 39 → K' 48 j = K 48 (j + 1)) → Q none (jQ h K'))  : jx_Ev jm_Acts_dropOldest (d + 1) 0 0 false 0 [jv_r 48 0] (jQ h K) Q := by
  show jx_W (jm_Acts_dropOldest, d + 1, 0, 0, false, 0, _) Q 0 0 0 [some (jv_r 48 0)] [] _
  refine jr_aload rfl rfl ?_
  refine jr_ic rfl ?_
  refine jr_aload rfl rfl ?_
  refine jr_ic rfl ?_
  refine jr_aload rfl rfl ?_
  refine jr_alen (so := 1) (len := 40) rfl rfl rfl rfl ?_
  refine jr_ic rfl ?_
  refine jr_isub rfl ?_
  refine jr_copy (len0 := 40) (len := 40) (sp := 1) (dp := 0) (m := 39) rfl rfl rfl (Nat.succ_le_succ (Nat.zero_le _)) rfl rfl rfl rfl rfl (by decide) (by decide) ?_
  refine jr_vret rfl rfl (Nat.zero_le _) (Nat.zero_le _) ?_
  simp only [jQ_48, jQ_r48]
  refine k _ (fun a ha => if_neg ha) (fun j hj => ?_)
  show va_cpy (K 48) (K 48) 1 0 39 j = _
  rw [pk_cpy_in (by omega) (by omega), Nat.sub_zero, Nat.add_comm]

set_option maxHeartbeats 800000 in
set_option maxRecDepth 100000 in
theorem ev_drop49 {d : Nat} {h : jx_H} {Q : Option jx_V → jx_H → Prop} {K : Nat → Nat → Int32} (k : ∀ K' : Nat → Nat → Int32, (∀ a, a ≠ 49 → K' a = K a) → (∀ j, j < 39 → K' 49 j = K 49 (j + 1)) → Q none (jQ h K'))  : jx_Ev jm_Acts_dropOldest (d + 1) 0 0 false 0 [jv_r 49 0] (jQ h K) Q := by
  show jx_W (jm_Acts_dropOldest, d + 1, 0, 0, false, 0, _) Q 0 0 0 [some (jv_r 49 0)] [] _
  refine jr_aload rfl rfl ?_
  refine jr_ic rfl ?_
  refine jr_aload rfl rfl ?_
  refine jr_ic rfl ?_
  refine jr_aload rfl rfl ?_
  refine jr_alen (so := 1) (len := 40) rfl rfl rfl rfl ?_
  refine jr_ic rfl ?_
  refine jr_isub rfl ?_
  refine jr_copy (len0 := 40) (len := 40) (sp := 1) (dp := 0) (m := 39) rfl rfl rfl (Nat.succ_le_succ (Nat.zero_le _)) rfl rfl rfl rfl rfl (by decide) (by decide) ?_
  refine jr_vret rfl rfl (Nat.zero_le _) (Nat.zero_le _) ?_
  simp only [jQ_49, jQ_r49]
  refine k _ (fun a ha => if_neg ha) (fun j hj => ?_)
  show va_cpy (K 49) (K 49) 1 0 39 j = _
  rw [pk_cpy_in (by omega) (by omega), Nat.sub_zero, Nat.add_comm]

set_option maxHeartbeats 800000 in
set_option maxRecDepth 100000 in
theorem ev_drop50 {d : Nat} {h : jx_H} {Q : Option jx_V → jx_H → Prop} {K : Nat → Nat → Int32} (k : ∀ K' : Nat → Nat → Int32, (∀ a, a ≠ 50 → K' a = K a) → (∀ j, j < 39 → K' 50 j = K 50 (j + 1)) → Q none (jQ h K'))  : jx_Ev jm_Acts_dropOldest (d + 1) 0 0 false 0 [jv_r 50 0] (jQ h K) Q := by
  show jx_W (jm_Acts_dropOldest, d + 1, 0, 0, false, 0, _) Q 0 0 0 [some (jv_r 50 0)] [] _
  refine jr_aload rfl rfl ?_
  refine jr_ic rfl ?_
  refine jr_aload rfl rfl ?_
  refine jr_ic rfl ?_
  refine jr_aload rfl rfl ?_
  refine jr_alen (so := 1) (len := 40) rfl rfl rfl rfl ?_
  refine jr_ic rfl ?_
  refine jr_isub rfl ?_
  refine jr_copy (len0 := 40) (len := 40) (sp := 1) (dp := 0) (m := 39) rfl rfl rfl (Nat.succ_le_succ (Nat.zero_le _)) rfl rfl rfl rfl rfl (by decide) (by decide) ?_
  refine jr_vret rfl rfl (Nat.zero_le _) (Nat.zero_le _) ?_
  simp only [jQ_50, jQ_r50]
  refine k _ (fun a ha => if_neg ha) (fun j hj => ?_)
  show va_cpy (K 50) (K 50) 1 0 39 j = _
  rw [pk_cpy_in (by omega) (by omega), Nat.sub_zero, Nat.add_comm]

set_option maxHeartbeats 800000 in
set_option maxRecDepth 100000 in
theorem ev_drop51 {d : Nat} {h : jx_H} {Q : Option jx_V → jx_H → Prop} {K : Nat → Nat → Int32} (k : ∀ K' : Nat → Nat → Int32, (∀ a, a ≠ 51 → K' a = K a) → (∀ j, j < 39 → K' 51 j = K 51 (j + 1)) → Q none (jQ h K'))  : jx_Ev jm_Acts_dropOldest (d + 1) 0 0 false 0 [jv_r 51 0] (jQ h K) Q := by
  show jx_W (jm_Acts_dropOldest, d + 1, 0, 0, false, 0, _) Q 0 0 0 [some (jv_r 51 0)] [] _
  refine jr_aload rfl rfl ?_
  refine jr_ic rfl ?_
  refine jr_aload rfl rfl ?_
  refine jr_ic rfl ?_
  refine jr_aload rfl rfl ?_
  refine jr_alen (so := 1) (len := 40) rfl rfl rfl rfl ?_
  refine jr_ic rfl ?_
  refine jr_isub rfl ?_
  refine jr_copy (len0 := 40) (len := 40) (sp := 1) (dp := 0) (m := 39) rfl rfl rfl (Nat.succ_le_succ (Nat.zero_le _)) rfl rfl rfl rfl rfl (by decide) (by decide) ?_
  refine jr_vret rfl rfl (Nat.zero_le _) (Nat.zero_le _) ?_
  simp only [jQ_51, jQ_r51]
  refine k _ (fun a ha => if_neg ha) (fun j hj => ?_)
  show va_cpy (K 51) (K 51) 1 0 39 j = _
  rw [pk_cpy_in (by omega) (by omega), Nat.sub_zero, Nat.add_comm]

set_option maxHeartbeats 800000 in
set_option maxRecDepth 100000 in
theorem ev_Acts_note1 {d : Nat} {h : jx_H} {Q : Option jx_V → jx_H → Prop} {n s : Nat} {x y z u : Int32} {K : Nat → Nat → Int32} (hn : K 0 4 = nI n) (hn2 : n = 40) (hs : s = 1) (k : ∀ K' : Nat → Nat → Int32, (K' 0 4 = nI (n + 1 - s) ∧ K' 0 5 = nI (n + 1 - s)) → (∀ j, j < n - s → K' 48 j = K 48 (j + s) ∧ K' 49 j = K 49 (j + s) ∧ K' 50 j = K 50 (j + s) ∧ K' 51 j = K 51 (j + s)) → (K' 48 (n - s) = x ∧ K' 49 (n - s) = y ∧ K' 50 (n - s) = z ∧ K' 51 (n - s) = u) → Q none (jQ h K'))  : jx_Ev jm_Acts_note (d + 2) 0 0 false 0 [jv_r 0 0, jv_i x, jv_i y, jv_i z, jv_i u] (jQ h K) Q := by
  show jx_W (jm_Acts_note, d + 2, 0, 0, false, 0, _) Q 0 0 0 [some (jv_r 0 0), some (jv_i x), some (jv_i y), some (jv_i z), some (jv_i u)] [] _
  refine jr_aload rfl rfl ?_
  refine jr_getI rfl rfl ?_
  rw [show jh_I (jQ h K) 0 0 4 = nI n from hn]
  refine jr_ic rfl ?_
  refine jr_icmp_lt rfl (fun z => absurd z (nI_nlt (a := n) (b := 40) (by omega) (by omega))) (fun _ => ?_)
  refine jr_aload rfl rfl ?_
  refine jr_getR rfl rfl rfl rfl (Or.inl rfl) ?_
  refine jr_cs1 (mc' := 0) (ms' := 0) rfl jm_Acts_dropOldest_n jm_Acts_dropOldest_f rfl rfl rfl rfl rfl (Nat.zero_le _) (Nat.zero_le _) ?_
  refine ev_drop48 (fun K1 f1 g1 => ?_)
  refine jr_aload rfl rfl ?_
  refine jr_getR rfl rfl rfl rfl (Or.inl rfl) ?_
  refine jr_cs1 (mc' := 0) (ms' := 0) rfl jm_Acts_dropOldest_n jm_Acts_dropOldest_f rfl rfl rfl rfl rfl (Nat.zero_le _) (Nat.zero_le _) ?_
  refine ev_drop49 (fun K2 f2 g2 => ?_)
  refine jr_aload rfl rfl ?_
  refine jr_getR rfl rfl rfl rfl (Or.inl rfl) ?_
  refine jr_cs1 (mc' := 0) (ms' := 0) rfl jm_Acts_dropOldest_n jm_Acts_dropOldest_f rfl rfl rfl rfl rfl (Nat.zero_le _) (Nat.zero_le _) ?_
  refine ev_drop50 (fun K3 f3 g3 => ?_)
  refine jr_aload rfl rfl ?_
  refine jr_getR rfl rfl rfl rfl (Or.inl rfl) ?_
  refine jr_cs1 (mc' := 0) (ms' := 0) rfl jm_Acts_dropOldest_n jm_Acts_dropOldest_f rfl rfl rfl rfl rfl (Nat.zero_le _) (Nat.zero_le _) ?_
  refine ev_drop51 (fun K4 f4 g4 => ?_)
  refine jr_aload rfl rfl ?_
  refine jr_ic rfl ?_
  refine jr_putI rfl rfl ?_
  rw [jQ_0]
  refine jr_aload rfl rfl ?_
  refine jr_getR rfl rfl rfl rfl (Or.inl rfl) ?_
  refine jr_aload rfl rfl ?_
  refine jr_getI rfl rfl ?_
  refine jr_iload rfl rfl ?_
  refine jr_iast (len := 40) rfl rfl (show _ = nI 39 from rfl) (by decide) ?_
  refine jr_aload rfl rfl ?_
  refine jr_getR rfl rfl rfl rfl (Or.inl rfl) ?_
  refine jr_aload rfl rfl ?_
  refine jr_getI rfl rfl ?_
  refine jr_iload rfl rfl ?_
  refine jr_iast (len := 40) rfl rfl (show _ = nI 39 from rfl) (by decide) ?_
  refine jr_aload rfl rfl ?_
  refine jr_getR rfl rfl rfl rfl (Or.inl rfl) ?_
  refine jr_aload rfl rfl ?_
  refine jr_getI rfl rfl ?_
  refine jr_iload rfl rfl ?_
  refine jr_iast (len := 40) rfl rfl (show _ = nI 39 from rfl) (by decide) ?_
  refine jr_aload rfl rfl ?_
  refine jr_getR rfl rfl rfl rfl (Or.inl rfl) ?_
  refine jr_aload rfl rfl ?_
  refine jr_getI rfl rfl ?_
  refine jr_iload rfl rfl ?_
  refine jr_iast (len := 40) rfl rfl (show _ = nI 39 from rfl) (by decide) ?_
  refine jr_aload rfl rfl ?_
  refine jr_dup_r rfl ?_
  refine jr_getI rfl rfl ?_
  refine jr_ic rfl ?_
  refine jr_iadd rfl ?_
  refine jr_putI rfl rfl ?_
  refine jr_aload rfl rfl ?_
  refine jr_aload rfl rfl ?_
  refine jr_getI rfl rfl ?_
  refine jr_putI rfl rfl ?_
  refine jr_vret rfl rfl (Nat.zero_le _) (Nat.zero_le _) ?_
  subst hn2
  subst hs
  simp only [jQ_0, jQ_r0, jQ_48, jQ_r48, jQ_49, jQ_r49, jQ_50, jQ_r50, jQ_51, jQ_r51]
  refine k _ ⟨rfl, rfl⟩ (fun j hj => ⟨?_, ?_, ?_, ?_⟩) ⟨show upd (K4 48) 39 x 39 = x from jg_us _ _ _, show upd (K4 49) 39 y 39 = y from jg_us _ _ _, show upd (K4 50) 39 z 39 = z from jg_us _ _ _, show upd (K4 51) 39 u 39 = u from jg_us _ _ _⟩
  · show upd (K4 48) 39 x j = _
    rw [jg_un (by omega), f4 48 (by decide), f3 48 (by decide), f2 48 (by decide), g1 j (by omega)]
  · show upd (K4 49) 39 y j = _
    rw [jg_un (by omega), f4 49 (by decide), f3 49 (by decide), g2 j (by omega), f1 49 (by decide)]
  · show upd (K4 50) 39 z j = _
    rw [jg_un (by omega), f4 50 (by decide), g3 j (by omega), f2 50 (by decide), f1 50 (by decide)]
  · show upd (K4 51) 39 u j = _
    rw [jg_un (by omega), g4 j (by omega), f3 51 (by decide), f2 51 (by decide), f1 51 (by decide)]

