theorem jw_gd_snoc {C : jw_C} {l : Int32} : ∀ {n d : Nat} {a : jw_A}, jw_gd C l (n + 1) d a = jw_g1 C l (d + n) (jw_gd C l n d a)
  | 0, _, _ => rfl
  | n + 1, d, a => by
    rw [jw_gd, jw_gd_snoc, jw_gd, show d + 1 + n = d + (n + 1) by omega]
theorem jw_del_0 {C : jw_C} {mo fg l : Int32} {b : Nat} {h : jx_H} (hR0 : jz_R h b) (hC : C = jC h b) : ∀ {n x : Nat}, n ≤ jz_nd h b → (x < 2 ∨ (7 ≤ x ∧ x < 12) ∨ 36 ≤ x) → jw_del C mo fg l n x = 0
  | 0, _, _, _ => rfl
  | n + 1, x, hn, hx => by
    have hnd := hR0.2.2.1.2
    have hnp := hR0.2.1.2
    obtain ⟨y, z, u, v, m, hy, hz, -, -, -, hy1, hz1, -⟩ := hR0.2.2.2.2.1 n (by omega)
    rw [jw_del, jw_del_0 hR0 hC (by omega) hx, Int32.zero_add]
    subst hC
    by_cases g : jC h b 10 n = mo ∧ ¬ ((fg >>> (nI n &&& 31)) &&& 1 = 1)
    · by_cases p : jw_paid (jC h b) n l = 0
      · rw [jw_d1_l g p, if_neg (by omega)]
      · rw [jw_d1_p g p hy hz (by omega) (by omega), if_neg (by omega), if_neg (by omega), if_neg (by omega)]
    · exact jw_d1_n g
theorem jw_g1_x {h : jx_H} {b d : Nat} {l : Int32} {a : jw_A} (hR0 : jz_R h b) (hd : d < jz_nd h b) (x : Nat) : jw_g1 (jC h b) l d a x = a x + jw_d1 (jC h b) (jw_month (jC h b) a) (a 36) l d x := by
  have hnd := hR0.2.2.1.2
  have hnp := hR0.2.1.2
  obtain ⟨y, z, u, v, m, hy, hz, -, -, -, hy1, hz1, hyz, -⟩ := hR0.2.2.2.2.1 d hd
  unfold jw_g1
  by_cases g : jC h b 10 d = jw_month (jC h b) a ∧ ¬ ((a 36 >>> (nI d &&& 31)) &&& 1 = 1)
  · rw [if_pos g]
    by_cases p : jw_paid (jC h b) d l = 0
    · rw [if_pos p, jw_d1_l g p]
      by_cases e : x = 24 + d
      · rw [e, jg_us, if_pos rfl]
      · rw [jg_un e, if_neg e, Int32.add_zero]
    · rw [if_neg p, jw_d1_p g p hy hz (by omega) (by omega), jn_1 hy (by omega), jn_1 hz (by omega)]
      by_cases e : x = 2 + z
      · rw [e, jg_us, jg_un (by omega), jg_un (by omega), if_neg (by omega), if_neg (by omega), if_pos rfl]
      · rw [jg_un e]
        by_cases e2 : x = 2 + y
        · rw [e2, jg_us, jg_un (by omega), if_neg (by omega), if_pos rfl, Int32.sub_eq_add_neg]
        · rw [jg_un e2]
          by_cases e3 : x = 12 + d
          · rw [e3, jg_us, if_pos rfl]
          · rw [jg_un e3, if_neg e3, if_neg e2, if_neg e, Int32.add_zero]
  · rw [if_neg g, jw_d1_n g, Int32.add_zero]
theorem jw_gd_x {h : jx_H} {b : Nat} {l : Int32} {a : jw_A} (hR0 : jz_R h b) : ∀ {n : Nat}, n ≤ jz_nd h b → ∀ x, jw_gd (jC h b) l n 0 a x = a x + jw_del (jC h b) (jw_month (jC h b) a) (a 36) l n x
  | 0, _, x => by rw [jw_del, Int32.add_zero]; rfl
  | n + 1, hn, x => by
    rw [jw_gd_snoc, Nat.zero_add, jw_g1_x hR0 (by omega), jw_gd_x hR0 (by omega)]
    have e0 : jw_gd (jC h b) l n 0 a 0 = a 0 := by rw [jw_gd_x hR0 (by omega), jw_del_0 hR0 rfl (by omega) (by omega), Int32.add_zero]
    have e36 : jw_gd (jC h b) l n 0 a 36 = a 36 := by rw [jw_gd_x hR0 (by omega), jw_del_0 hR0 rfl (by omega) (by omega), Int32.add_zero]
    rw [jw_del, e36, show jw_month (jC h b) (jw_gd (jC h b) l n 0 a) = jw_month (jC h b) a by unfold jw_month; rw [e0], Int32.add_assoc]
abbrev jw_dx (h : jx_H) (b : Nat) (a : jw_A) (l : Int32) (x : Nat) : Int32 := jw_del (jC h b) (jw_month (jC h b) a) (a 36) l (jz_nd h b) x
theorem jw_gb_x {h : jx_H} {b : Nat} {l : Int32} {a : jw_A} (hR0 : jz_R h b) (x : Nat) : jw_gb (jC h b) (jz_nd h b) l a x = if x = 0 then a 0 + 1 else if x = 1 then a 1 + l else a x + jw_dx h b a l x := by
  unfold jw_gb jw_ge
  have g := jw_gd_x (l := l) (a := a) hR0 (Nat.le_refl _)
  by_cases e : x = 0
  · rw [e, jg_us, if_pos rfl, g, jw_del_0 hR0 rfl (Nat.le_refl _) (by omega), Int32.add_zero]
  · rw [jg_un e, if_neg e]
    by_cases e1 : x = 1
    · rw [e1, jg_us, if_pos rfl, g, jw_del_0 hR0 rfl (Nat.le_refl _) (by omega), Int32.add_zero]
    · rw [jg_un e1, if_neg e1, g]
theorem jw_gb_hi {h : jx_H} {b : Nat} {l : Int32} {a : jw_A} (hR0 : jz_R h b) {x : Nat} (hx : (7 ≤ x ∧ x < 12) ∨ 36 ≤ x) : jw_gb (jC h b) (jz_nd h b) l a x = a x := by
  rw [jw_gb_x hR0, if_neg (by omega), if_neg (by omega), show jw_dx h b a l x = 0 from jw_del_0 hR0 rfl (Nat.le_refl _) (by omega), Int32.add_zero]
/-- a month back -/
def jw_bk (h : jx_H) (b : Nat) (l : Int32) (a : jw_A) : jw_A := fun x => if x = 0 then a 0 - 1 else if x = 1 then a 1 - l else a x + (-1) * jw_del (jC h b) (jw_rem (a 0 - 1) (jC h b 0 0)) (a 36) l (jz_nd h b) x
theorem jw_bk_gb {h : jx_H} {b : Nat} {l : Int32} {a : jw_A} (hR0 : jz_R h b) : jw_bk h b l (jw_gb (jC h b) (jz_nd h b) l a) = a := by
  have g := jw_gb_x (l := l) (a := a) hR0
  have e0 : jw_gb (jC h b) (jz_nd h b) l a 0 - 1 = a 0 := by rw [g, if_pos rfl, Int32.add_sub_cancel]
  have e36 : jw_gb (jC h b) (jz_nd h b) l a 36 = a 36 := jw_gb_hi hR0 (by omega)
  funext x
  unfold jw_bk
  rw [e0, e36]
  by_cases e : x = 0
  · rw [if_pos e, e]
  · rw [if_neg e]
    by_cases e1 : x = 1
    · rw [if_pos e1, g, if_neg (by decide), if_pos rfl, Int32.add_sub_cancel, e1]
    · rw [if_neg e1, g, if_neg e, if_neg e1]
      show a x + jw_dx h b a l x + -1 * jw_dx h b a l x = a x
      rw [Int32.neg_mul, Int32.one_mul, Int32.add_assoc, Int32.add_right_neg, Int32.add_zero]
/-- rows of a calendar beside the model's cells -/
def jy_T (n : Nat) (T : Nat → Nat → Int32) (a : jw_A) : Prop := T 1 2 = a 0 ∧ T 1 3 = a 1 ∧ (∀ p, p < 5 → T 32 p = a (2 + p) ∧ (p < n → T 33 p = a (7 + p))) ∧
  (∀ d, d < 12 → T 34 d = a (12 + d) ∧ T 35 d = a (24 + d) ∧ T 36 d = (a 36 >>> (nI d &&& 31)) &&& 1)
theorem jw_rem_s {x y : Int32} : x - x / y * y = jw_rem x y := rfl
set_option maxHeartbeats 800000 in
set_option maxRecDepth 100000 in
theorem ev_settle0 {d : Nat} {h : jx_H} {Q : Option jx_V → jx_H → Prop} {hm : jx_H} {b r kc : Nat} {S T0 : Nat → Nat → Int32} {l t fg : Int32} (hR0 : jz_R hm b) (hR : jy_R h r hm b) (hmo : ¬ jC hm b 0 0 = 0) (hfg : ∀ d, d < 12 → T0 36 d = (fg >>> (nI d &&& 31)) &&& 1) (hl0 : 0 ≤ l) (k : ∀ T' : Nat → Nat → Int32, (∀ x, x ≠ 32 → x ≠ 34 → x ≠ 35 → T' x = T0 x) → (∀ p, p < 5 → T' 32 p = T0 32 p + t * jw_del (jC hm b) (jw_rem (T0 1 2) (jC hm b 0 0)) fg l (jz_nd hm b) (2 + p)) ∧ (∀ d, d < 12 → T' 34 d = T0 34 d + t * jw_del (jC hm b) (jw_rem (T0 1 2) (jC hm b 0 0)) fg l (jz_nd hm b) (12 + d) ∧ T' 35 d = T0 35 d + t * jw_del (jC hm b) (jw_rem (T0 1 2) (jC hm b 0 0)) fg l (jz_nd hm b) (24 + d)) → Q none (jP (jK h 0 T' (r + 1)) S kc))  : jx_Ev jm_Cal_settleDues (d + 3) 0 0 false 0 [jv_r 1 0, jv_i l, jv_i t] (jP (jK h 0 T0 (r + 1)) S kc) Q := by
  show jx_W (jm_Cal_settleDues, d + 3, 0, 0, false, 0, _) Q 0 0 0 [some (jv_r 1 0), some (jv_i l), some (jv_i t), none, none, none] [] _
  have hnm := hR0.1
  have hn0 : 0 < jz_nm hm b := by
    rcases Nat.eq_zero_or_pos (jz_nm hm b) with e | e
    · rw [e] at hnm; exact absurd hnm.1 hmo
    · exact e
  have hr0 : jh_I h 7 r 0 = jC hm b 0 0 := hR.1
  refine jr_aload rfl rfl ?_
  refine jr_cv0 (mc' := 0) (ms' := 0) rfl jm_Cal_nextMonth_n jm_Cal_nextMonth_f rfl rfl rfl rfl rfl rfl rfl (Nat.zero_le _) (Nat.zero_le _) ?_
  show jx_W (jm_Cal_nextMonth, _, _, _, _, _, _) _ 0 0 0 [some _] [] _
  refine jr_aload rfl rfl ?_
  refine jr_getM rfl rfl rfl rfl rfl ?_
  refine jr_getI rfl rfl ?_
  rw [show jh_I (jP (jK h 0 T0 (r + 1)) S kc) 7 r 0 = nI (jz_nm hm b) from hr0.trans hnm.1]
  refine jr_if_le rfl (fun z => absurd z (nI_nle hn0 (by omega))) (fun _ => ?_)
  refine jr_aload rfl rfl ?_
  refine jr_getI rfl rfl ?_
  refine jr_aload rfl rfl ?_
  refine jr_getM rfl rfl rfl rfl rfl ?_
  refine jr_getI rfl rfl ?_
  rw [show jh_I (jP (jK h 0 T0 (r + 1)) S kc) 7 r 0 = jC hm b 0 0 from hr0]
  refine jr_irem rfl hmo ?_
  refine jr_goto rfl ?_
  refine jr_iret rfl rfl (Nat.zero_le _) (Nat.zero_le _) ?_
  refine jr_ist3 rfl rfl ?_
  refine jr_ic rfl ?_
  refine jr_ist4 rfl rfl ?_
  refine lp_settle0 (wr := T0 1 2) T0 0 hR0 hR hmo rfl hfg hl0 (Nat.zero_le _) (fun _ _ _ _ => rfl) ⟨fun p _ => ?_, fun d _ => ⟨?_, ?_⟩⟩ k
  · rw [jw_del, jq_0]
  · rw [jw_del, jq_0]
  · rw [jw_del, jq_0]

set_option maxHeartbeats 800000 in
set_option maxRecDepth 100000 in
theorem ev_comes0 {d : Nat} {h : jx_H} {Q : Option jx_V → jx_H → Prop} {hm : jx_H} {b r kc w : Nat} {S T0 : Nat → Nat → Int32} {l : Int32} {a : jw_A} (hR0 : jz_R hm b) (hR : jy_R h r hm b) (hmo : ¬ jC hm b 0 0 = 0) (hT : jy_T (jy_np h r) T0 a) (hl0 : 0 ≤ l) (hw0 : a 0 = nI w) (hw : w < 512) (k : ∀ T' : Nat → Nat → Int32, jy_T (jy_np h r) T' (jw_gb (jC hm b) (jz_nd hm b) l a) → T' 31 = upd (T0 31) w l → Q none (jP (jK h 0 T' (r + 1)) S kc))  : jx_Ev jm_Cal_comes (d + 4) 0 0 false 0 [jv_r 1 0, jv_i l] (jP (jK h 0 T0 (r + 1)) S kc) Q := by
  show jx_W (jm_Cal_comes, d + 4, 0, 0, false, 0, _) Q 0 0 0 [some (jv_r 1 0), some (jv_i l)] [] _
  refine jr_aload rfl rfl ?_
  refine jr_getI rfl rfl ?_
  refine jr_aload rfl rfl ?_
  refine jr_getR rfl rfl rfl rfl (Or.inl rfl) ?_
  refine jr_alen (so := 1) (len := 512) rfl rfl rfl rfl ?_
  rw [show jh_I (jP (jK h 0 T0 (r + 1)) S kc) 1 0 2 = nI w from hT.1.trans hw0]
  refine jr_icmp_ge rfl (fun z => absurd z (nI_ge (a := w) (b := 512) hw (by decide))) (fun _ => ?_)
  refine jr_aload rfl rfl ?_
  refine jr_iload rfl rfl ?_
  refine jr_ic rfl ?_
  refine jr_cv2 (mc' := 0) (ms' := 0) rfl jm_Cal_settleDues_n jm_Cal_settleDues_f rfl rfl rfl rfl rfl rfl rfl (Nat.zero_le _) (Nat.zero_le _) ?_
  refine ev_settle0 (fg := a 36) hR0 hR hmo (fun d hd => (hT.2.2.2 d hd).2.2) hl0 (fun T1 f1 g1 => ?_)
  refine jr_aload rfl rfl ?_
  refine jr_getR rfl rfl rfl rfl (Or.inl rfl) ?_
  refine jr_aload rfl rfl ?_
  refine jr_getI rfl rfl ?_
  refine jr_iload rfl rfl ?_
  rw [show jh_I (jP (jK h 0 T1 (r + 1)) S kc) 1 0 2 = nI w from (congrFun (f1 1 (by decide) (by decide) (by decide)) 2).trans (hT.1.trans hw0)]
  refine jr_iast (len := 512) rfl rfl rfl (by omega) ?_
  simp only [jPK_31, jPK_r31_0]
  refine jr_aload rfl rfl ?_
  refine jr_dup_r rfl ?_
  refine jr_getI rfl rfl ?_
  refine jr_ic rfl ?_
  refine jr_iadd rfl ?_
  refine jr_putI rfl rfl ?_
  simp only [jPK_1, jPK_r1_0]
  refine jr_aload rfl rfl ?_
  refine jr_dup_r rfl ?_
  refine jr_getI rfl rfl ?_
  refine jr_iload rfl rfl ?_
  refine jr_iadd rfl ?_
  refine jr_putI rfl rfl ?_
  simp only [jPK_1, jPK_r1_0]
  refine jr_vret rfl rfl (Nat.zero_le _) (Nat.zero_le _) ?_
  refine k _ ⟨?_, ?_, fun p hp => ⟨?_, ?_⟩, fun d hd => ⟨?_, ?_, ?_⟩⟩ (congrArg (fun f => upd f w l) (f1 31 (by decide) (by decide) (by decide)))
  · show T1 1 2 + 1 = _
    rw [f1 1 (by decide) (by decide) (by decide), hT.1, jw_gb_x hR0, if_pos rfl]
  · show T1 1 3 + l = _
    rw [f1 1 (by decide) (by decide) (by decide), hT.2.1, jw_gb_x hR0, if_neg (by decide), if_pos rfl]
  · show T1 32 p = _
    rw [g1.1 p hp, (hT.2.2.1 p hp).1, jw_gb_x hR0, if_neg (by omega), if_neg (by omega), Int32.one_mul, hT.1]; rfl
  · intro hp2
    show T1 33 p = _
    rw [f1 33 (by decide) (by decide) (by decide), (hT.2.2.1 p hp).2 hp2, jw_gb_hi hR0 (by omega)]
  · show T1 34 d = _
    rw [(g1.2 d hd).1, (hT.2.2.2 d hd).1, jw_gb_x hR0, if_neg (by omega), if_neg (by omega), Int32.one_mul, hT.1]; rfl
  · show T1 35 d = _
    rw [(g1.2 d hd).2, (hT.2.2.2 d hd).2.1, jw_gb_x hR0, if_neg (by omega), if_neg (by omega), Int32.one_mul, hT.1]; rfl
  · show T1 36 d = _
    rw [f1 36 (by decide) (by decide) (by decide), (hT.2.2.2 d hd).2.2, jw_gb_hi hR0 (by omega)]

set_option maxHeartbeats 800000 in
set_option maxRecDepth 100000 in
theorem ev_goes0 {d : Nat} {h : jx_H} {Q : Option jx_V → jx_H → Prop} {hm : jx_H} {b r kc w : Nat} {S T0 : Nat → Nat → Int32} {l : Int32} {a : jw_A} (hR0 : jz_R hm b) (hR : jy_R h r hm b) (hmo : ¬ jC hm b 0 0 = 0) (hT : jy_T (jy_np h r) T0 a) (hw0 : a 0 = nI (w + 1)) (hw : w < 512) (hl : T0 31 w = l) (hl0 : 0 ≤ l) (k : ∀ T' : Nat → Nat → Int32, jy_T (jy_np h r) T' (jw_bk hm b l a) → T' 31 = T0 31 → Q none (jP (jK h 0 T' (r + 1)) S kc))  : jx_Ev jm_Cal_goes (d + 4) 0 0 false 0 [jv_r 1 0] (jP (jK h 0 T0 (r + 1)) S kc) Q := by
  show jx_W (jm_Cal_goes, d + 4, 0, 0, false, 0, _) Q 0 0 0 [some (jv_r 1 0), none] [] _
  refine jr_aload rfl rfl ?_
  refine jr_getI rfl rfl ?_
  rw [show jh_I (jP (jK h 0 T0 (r + 1)) S kc) 1 0 2 = nI (w + 1) from hT.1.trans hw0]
  refine jr_if_le rfl (fun z => absurd z (nI_nle (by omega) (by omega))) (fun _ => ?_)
  refine jr_aload rfl rfl ?_
  refine jr_getI rfl rfl ?_
  refine jr_aload rfl rfl ?_
  refine jr_getR rfl rfl rfl rfl (Or.inl rfl) ?_
  refine jr_alen (so := 1) (len := 512) rfl rfl rfl rfl ?_
  rw [show jh_I (jP (jK h 0 T0 (r + 1)) S kc) 1 0 2 = nI (w + 1) from hT.1.trans hw0]
  refine jr_icmp_gt rfl (fun z => absurd z (nI_nlt (a := 512) (b := w + 1) (by omega) (by omega))) (fun _ => ?_)
  refine jr_aload rfl rfl ?_
  refine jr_dup_r rfl ?_
  refine jr_getI rfl rfl ?_
  refine jr_ic rfl ?_
  refine jr_isub rfl ?_
  refine jr_putI rfl rfl ?_
  simp only [jPK_1, jPK_r1_0]
  refine jr_aload rfl rfl ?_
  refine jr_getR rfl rfl rfl rfl (Or.inl rfl) ?_
  refine jr_aload rfl rfl ?_
  refine jr_getI rfl rfl ?_
  rw [show jh_I (jP (jK h 0 (fun x => if x = 1 then upd (T0 1) 2 (T0 1 2 - 1) else T0 x) (r + 1)) S kc) 1 0 2 = nI w from (show T0 1 2 - 1 = nI w by rw [hT.1, hw0, nI_pred])]
  refine jr_iald (len := 512) rfl rfl rfl (by omega) ?_
  rw [show jh_I (jP (jK h 0 (fun x => if x = 1 then upd (T0 1) 2 (T0 1 2 - 1) else T0 x) (r + 1)) S kc) 31 0 w = l from hl]
  refine jr_ist1 rfl rfl ?_
  refine jr_aload rfl rfl ?_
  refine jr_dup_r rfl ?_
  refine jr_getI rfl rfl ?_
  refine jr_iload rfl rfl ?_
  refine jr_isub rfl ?_
  refine jr_putI rfl rfl ?_
  simp only [jPK_1, jPK_r1_0]
  refine jr_aload rfl rfl ?_
  refine jr_iload rfl rfl ?_
  refine jr_ic rfl ?_
  refine jr_cv2 (mc' := 0) (ms' := 0) rfl jm_Cal_settleDues_n jm_Cal_settleDues_f rfl rfl rfl rfl rfl rfl rfl (Nat.zero_le _) (Nat.zero_le _) ?_
  refine ev_settle0 (fg := a 36) hR0 hR hmo (fun d hd => (hT.2.2.2 d hd).2.2) hl0 (fun T1 f1 g1 => ?_)
  have e12 : T1 1 2 = a 0 - 1 := (congrFun (f1 1 (by decide) (by decide) (by decide)) 2).trans (show T0 1 2 - 1 = a 0 - 1 by rw [hT.1])
  have e0 : ∀ x, jw_del (jC hm b) (jw_rem (T0 1 2 - 1) (jC hm b 0 0)) (a 36) l (jz_nd hm b) x = jw_del (jC hm b) (jw_rem (a 0 - 1) (jC hm b 0 0)) (a 36) l (jz_nd hm b) x := fun x => by rw [hT.1]
  refine jr_vret rfl rfl (Nat.zero_le _) (Nat.zero_le _) ?_
  refine k _ ⟨?_, ?_, fun p hp => ⟨?_, ?_⟩, fun d hd => ⟨?_, ?_, ?_⟩⟩ (f1 31 (by decide) (by decide) (by decide))
  · exact e12
  · show T1 1 3 = a 1 - l
    rw [f1 1 (by decide) (by decide) (by decide)]
    show T0 1 3 - l = _
    rw [hT.2.1]
  · refine (g1.1 p hp).trans ?_
    show T0 32 p + -1 * jw_del (jC hm b) (jw_rem (T0 1 2 - 1) (jC hm b 0 0)) (a 36) l (jz_nd hm b) (2 + p) = _
    rw [e0, (hT.2.2.1 p hp).1]
    unfold jw_bk
    rw [if_neg (by omega), if_neg (by omega)]
  · intro hp2
    rw [f1 33 (by decide) (by decide) (by decide)]
    unfold jw_bk
    rw [if_neg (show ¬ 7 + p = 0 by omega), if_neg (show ¬ 7 + p = 1 by omega), jw_del_0 hR0 rfl (Nat.le_refl _) (by omega), jq_0]
    exact (hT.2.2.1 p hp).2 hp2
  · refine (g1.2 d hd).1.trans ?_
    show T0 34 d + -1 * jw_del (jC hm b) (jw_rem (T0 1 2 - 1) (jC hm b 0 0)) (a 36) l (jz_nd hm b) (12 + d) = _
    rw [e0, (hT.2.2.2 d hd).1]
    unfold jw_bk
    rw [if_neg (by omega), if_neg (by omega)]
  · refine (g1.2 d hd).2.trans ?_
    show T0 35 d + -1 * jw_del (jC hm b) (jw_rem (T0 1 2 - 1) (jC hm b 0 0)) (a 36) l (jz_nd hm b) (24 + d) = _
    rw [e0, (hT.2.2.2 d hd).2.1]
    unfold jw_bk
    rw [if_neg (by omega), if_neg (by omega)]
  · rw [f1 36 (by decide) (by decide) (by decide)]
    unfold jw_bk
    rw [if_neg (by omega), if_neg (by omega), jw_del_0 hR0 rfl (Nat.le_refl _) (by omega), jq_0]
    exact (hT.2.2.2 d hd).2.2

set_option maxHeartbeats 800000 in
set_option maxRecDepth 100000 in
theorem ev_settle4 {d : Nat} {h : jx_H} {Q : Option jx_V → jx_H → Prop} {hm : jx_H} {b r kc : Nat} {S T0 : Nat → Nat → Int32} {l t fg : Int32} (hR0 : jz_R hm b) (hR : jy_R h r hm b) (hmo : ¬ jC hm b 0 0 = 0) (hfg : ∀ d, d < 12 → T0 36 d = (fg >>> (nI d &&& 31)) &&& 1) (hl0 : 0 ≤ l) (k : ∀ T' : Nat → Nat → Int32, (∀ x, x ≠ 32 → x ≠ 34 → x ≠ 35 → T' x = T0 x) → (∀ p, p < 5 → T' 32 p = T0 32 p + t * jw_del (jC hm b) (jw_rem (T0 1 2) (jC hm b 0 0)) fg l (jz_nd hm b) (2 + p)) ∧ (∀ d, d < 12 → T' 34 d = T0 34 d + t * jw_del (jC hm b) (jw_rem (T0 1 2) (jC hm b 0 0)) fg l (jz_nd hm b) (12 + d) ∧ T' 35 d = T0 35 d + t * jw_del (jC hm b) (jw_rem (T0 1 2) (jC hm b 0 0)) fg l (jz_nd hm b) (24 + d)) → Q none (jP (jK h 4 T' (r + 1)) S kc))  : jx_Ev jm_Cal_settleDues (d + 3) 0 0 false 0 [jv_r 1 4, jv_i l, jv_i t] (jP (jK h 4 T0 (r + 1)) S kc) Q := by
  show jx_W (jm_Cal_settleDues, d + 3, 0, 0, false, 0, _) Q 0 0 0 [some (jv_r 1 4), some (jv_i l), some (jv_i t), none, none, none] [] _
  have hnm := hR0.1
  have hn0 : 0 < jz_nm hm b := by
    rcases Nat.eq_zero_or_pos (jz_nm hm b) with e | e
    · rw [e] at hnm; exact absurd hnm.1 hmo
    · exact e
  have hr0 : jh_I h 7 r 0 = jC hm b 0 0 := hR.1
  refine jr_aload rfl rfl ?_
  refine jr_cv0 (mc' := 0) (ms' := 0) rfl jm_Cal_nextMonth_n jm_Cal_nextMonth_f rfl rfl rfl rfl rfl rfl rfl (Nat.zero_le _) (Nat.zero_le _) ?_
  show jx_W (jm_Cal_nextMonth, _, _, _, _, _, _) _ 0 0 0 [some _] [] _
  refine jr_aload rfl rfl ?_
  refine jr_getM rfl rfl rfl rfl rfl ?_
  refine jr_getI rfl rfl ?_
  rw [show jh_I (jP (jK h 4 T0 (r + 1)) S kc) 7 r 0 = nI (jz_nm hm b) from hr0.trans hnm.1]
  refine jr_if_le rfl (fun z => absurd z (nI_nle hn0 (by omega))) (fun _ => ?_)
  refine jr_aload rfl rfl ?_
  refine jr_getI rfl rfl ?_
  refine jr_aload rfl rfl ?_
  refine jr_getM rfl rfl rfl rfl rfl ?_
  refine jr_getI rfl rfl ?_
  rw [show jh_I (jP (jK h 4 T0 (r + 1)) S kc) 7 r 0 = jC hm b 0 0 from hr0]
  refine jr_irem rfl hmo ?_
  refine jr_goto rfl ?_
  refine jr_iret rfl rfl (Nat.zero_le _) (Nat.zero_le _) ?_
  refine jr_ist3 rfl rfl ?_
  refine jr_ic rfl ?_
  refine jr_ist4 rfl rfl ?_
  refine lp_settle4 (wr := T0 1 2) T0 0 hR0 hR hmo rfl hfg hl0 (Nat.zero_le _) (fun _ _ _ _ => rfl) ⟨fun p _ => ?_, fun d _ => ⟨?_, ?_⟩⟩ k
  · rw [jw_del, jq_0]
  · rw [jw_del, jq_0]
  · rw [jw_del, jq_0]

set_option maxHeartbeats 800000 in
set_option maxRecDepth 100000 in
theorem ev_comes4 {d : Nat} {h : jx_H} {Q : Option jx_V → jx_H → Prop} {hm : jx_H} {b r kc w : Nat} {S T0 : Nat → Nat → Int32} {l : Int32} {a : jw_A} (hR0 : jz_R hm b) (hR : jy_R h r hm b) (hmo : ¬ jC hm b 0 0 = 0) (hT : jy_T (jy_np h r) T0 a) (hl0 : 0 ≤ l) (hw0 : a 0 = nI w) (hw : w < 512) (k : ∀ T' : Nat → Nat → Int32, jy_T (jy_np h r) T' (jw_gb (jC hm b) (jz_nd hm b) l a) → T' 31 = upd (T0 31) w l → Q none (jP (jK h 4 T' (r + 1)) S kc))  : jx_Ev jm_Cal_comes (d + 4) 0 0 false 0 [jv_r 1 4, jv_i l] (jP (jK h 4 T0 (r + 1)) S kc) Q := by
  show jx_W (jm_Cal_comes, d + 4, 0, 0, false, 0, _) Q 0 0 0 [some (jv_r 1 4), some (jv_i l)] [] _
  refine jr_aload rfl rfl ?_
  refine jr_getI rfl rfl ?_
  refine jr_aload rfl rfl ?_
  refine jr_getR rfl rfl rfl rfl (Or.inl rfl) ?_
  refine jr_alen (so := 1) (len := 512) rfl rfl rfl rfl ?_
  rw [show jh_I (jP (jK h 4 T0 (r + 1)) S kc) 1 4 2 = nI w from hT.1.trans hw0]
  refine jr_icmp_ge rfl (fun z => absurd z (nI_ge (a := w) (b := 512) hw (by decide))) (fun _ => ?_)
  refine jr_aload rfl rfl ?_
  refine jr_iload rfl rfl ?_
  refine jr_ic rfl ?_
  refine jr_cv2 (mc' := 0) (ms' := 0) rfl jm_Cal_settleDues_n jm_Cal_settleDues_f rfl rfl rfl rfl rfl rfl rfl (Nat.zero_le _) (Nat.zero_le _) ?_
  refine ev_settle4 (fg := a 36) hR0 hR hmo (fun d hd => (hT.2.2.2 d hd).2.2) hl0 (fun T1 f1 g1 => ?_)
  refine jr_aload rfl rfl ?_
  refine jr_getR rfl rfl rfl rfl (Or.inl rfl) ?_
  refine jr_aload rfl rfl ?_
  refine jr_getI rfl rfl ?_
  refine jr_iload rfl rfl ?_
  rw [show jh_I (jP (jK h 4 T1 (r + 1)) S kc) 1 4 2 = nI w from (congrFun (f1 1 (by decide) (by decide) (by decide)) 2).trans (hT.1.trans hw0)]
  refine jr_iast (len := 512) rfl rfl rfl (by omega) ?_
  simp only [jPK_31, jPK_r31_4]
  refine jr_aload rfl rfl ?_
  refine jr_dup_r rfl ?_
  refine jr_getI rfl rfl ?_
  refine jr_ic rfl ?_
  refine jr_iadd rfl ?_
  refine jr_putI rfl rfl ?_
  simp only [jPK_1, jPK_r1_4]
  refine jr_aload rfl rfl ?_
  refine jr_dup_r rfl ?_
  refine jr_getI rfl rfl ?_
  refine jr_iload rfl rfl ?_
  refine jr_iadd rfl ?_
  refine jr_putI rfl rfl ?_
  simp only [jPK_1, jPK_r1_4]
  refine jr_vret rfl rfl (Nat.zero_le _) (Nat.zero_le _) ?_
  refine k _ ⟨?_, ?_, fun p hp => ⟨?_, ?_⟩, fun d hd => ⟨?_, ?_, ?_⟩⟩ (congrArg (fun f => upd f w l) (f1 31 (by decide) (by decide) (by decide)))
  · show T1 1 2 + 1 = _
    rw [f1 1 (by decide) (by decide) (by decide), hT.1, jw_gb_x hR0, if_pos rfl]
  · show T1 1 3 + l = _
    rw [f1 1 (by decide) (by decide) (by decide), hT.2.1, jw_gb_x hR0, if_neg (by decide), if_pos rfl]
  · show T1 32 p = _
    rw [g1.1 p hp, (hT.2.2.1 p hp).1, jw_gb_x hR0, if_neg (by omega), if_neg (by omega), Int32.one_mul, hT.1]; rfl
  · intro hp2
    show T1 33 p = _
    rw [f1 33 (by decide) (by decide) (by decide), (hT.2.2.1 p hp).2 hp2, jw_gb_hi hR0 (by omega)]
  · show T1 34 d = _
    rw [(g1.2 d hd).1, (hT.2.2.2 d hd).1, jw_gb_x hR0, if_neg (by omega), if_neg (by omega), Int32.one_mul, hT.1]; rfl
  · show T1 35 d = _
    rw [(g1.2 d hd).2, (hT.2.2.2 d hd).2.1, jw_gb_x hR0, if_neg (by omega), if_neg (by omega), Int32.one_mul, hT.1]; rfl
  · show T1 36 d = _
    rw [f1 36 (by decide) (by decide) (by decide), (hT.2.2.2 d hd).2.2, jw_gb_hi hR0 (by omega)]

set_option maxHeartbeats 800000 in
set_option maxRecDepth 100000 in
theorem ev_goes4 {d : Nat} {h : jx_H} {Q : Option jx_V → jx_H → Prop} {hm : jx_H} {b r kc w : Nat} {S T0 : Nat → Nat → Int32} {l : Int32} {a : jw_A} (hR0 : jz_R hm b) (hR : jy_R h r hm b) (hmo : ¬ jC hm b 0 0 = 0) (hT : jy_T (jy_np h r) T0 a) (hw0 : a 0 = nI (w + 1)) (hw : w < 512) (hl : T0 31 w = l) (hl0 : 0 ≤ l) (k : ∀ T' : Nat → Nat → Int32, jy_T (jy_np h r) T' (jw_bk hm b l a) → T' 31 = T0 31 → Q none (jP (jK h 4 T' (r + 1)) S kc))  : jx_Ev jm_Cal_goes (d + 4) 0 0 false 0 [jv_r 1 4] (jP (jK h 4 T0 (r + 1)) S kc) Q := by
  show jx_W (jm_Cal_goes, d + 4, 0, 0, false, 0, _) Q 0 0 0 [some (jv_r 1 4), none] [] _
  refine jr_aload rfl rfl ?_
  refine jr_getI rfl rfl ?_
  rw [show jh_I (jP (jK h 4 T0 (r + 1)) S kc) 1 4 2 = nI (w + 1) from hT.1.trans hw0]
  refine jr_if_le rfl (fun z => absurd z (nI_nle (by omega) (by omega))) (fun _ => ?_)
  refine jr_aload rfl rfl ?_
  refine jr_getI rfl rfl ?_
  refine jr_aload rfl rfl ?_
  refine jr_getR rfl rfl rfl rfl (Or.inl rfl) ?_
  refine jr_alen (so := 1) (len := 512) rfl rfl rfl rfl ?_
  rw [show jh_I (jP (jK h 4 T0 (r + 1)) S kc) 1 4 2 = nI (w + 1) from hT.1.trans hw0]
  refine jr_icmp_gt rfl (fun z => absurd z (nI_nlt (a := 512) (b := w + 1) (by omega) (by omega))) (fun _ => ?_)
  refine jr_aload rfl rfl ?_
  refine jr_dup_r rfl ?_
  refine jr_getI rfl rfl ?_
  refine jr_ic rfl ?_
  refine jr_isub rfl ?_
  refine jr_putI rfl rfl ?_
  simp only [jPK_1, jPK_r1_4]
  refine jr_aload rfl rfl ?_
  refine jr_getR rfl rfl rfl rfl (Or.inl rfl) ?_
  refine jr_aload rfl rfl ?_
  refine jr_getI rfl rfl ?_
  rw [show jh_I (jP (jK h 4 (fun x => if x = 1 then upd (T0 1) 2 (T0 1 2 - 1) else T0 x) (r + 1)) S kc) 1 4 2 = nI w from (show T0 1 2 - 1 = nI w by rw [hT.1, hw0, nI_pred])]
  refine jr_iald (len := 512) rfl rfl rfl (by omega) ?_
  rw [show jh_I (jP (jK h 4 (fun x => if x = 1 then upd (T0 1) 2 (T0 1 2 - 1) else T0 x) (r + 1)) S kc) 31 4 w = l from hl]
  refine jr_ist1 rfl rfl ?_
  refine jr_aload rfl rfl ?_
  refine jr_dup_r rfl ?_
  refine jr_getI rfl rfl ?_
  refine jr_iload rfl rfl ?_
  refine jr_isub rfl ?_
  refine jr_putI rfl rfl ?_
  simp only [jPK_1, jPK_r1_4]
  refine jr_aload rfl rfl ?_
  refine jr_iload rfl rfl ?_
  refine jr_ic rfl ?_
  refine jr_cv2 (mc' := 0) (ms' := 0) rfl jm_Cal_settleDues_n jm_Cal_settleDues_f rfl rfl rfl rfl rfl rfl rfl (Nat.zero_le _) (Nat.zero_le _) ?_
  refine ev_settle4 (fg := a 36) hR0 hR hmo (fun d hd => (hT.2.2.2 d hd).2.2) hl0 (fun T1 f1 g1 => ?_)
  have e12 : T1 1 2 = a 0 - 1 := (congrFun (f1 1 (by decide) (by decide) (by decide)) 2).trans (show T0 1 2 - 1 = a 0 - 1 by rw [hT.1])
  have e0 : ∀ x, jw_del (jC hm b) (jw_rem (T0 1 2 - 1) (jC hm b 0 0)) (a 36) l (jz_nd hm b) x = jw_del (jC hm b) (jw_rem (a 0 - 1) (jC hm b 0 0)) (a 36) l (jz_nd hm b) x := fun x => by rw [hT.1]
  refine jr_vret rfl rfl (Nat.zero_le _) (Nat.zero_le _) ?_
  refine k _ ⟨?_, ?_, fun p hp => ⟨?_, ?_⟩, fun d hd => ⟨?_, ?_, ?_⟩⟩ (f1 31 (by decide) (by decide) (by decide))
  · exact e12
  · show T1 1 3 = a 1 - l
    rw [f1 1 (by decide) (by decide) (by decide)]
    show T0 1 3 - l = _
    rw [hT.2.1]
  · refine (g1.1 p hp).trans ?_
    show T0 32 p + -1 * jw_del (jC hm b) (jw_rem (T0 1 2 - 1) (jC hm b 0 0)) (a 36) l (jz_nd hm b) (2 + p) = _
    rw [e0, (hT.2.2.1 p hp).1]
    unfold jw_bk
    rw [if_neg (by omega), if_neg (by omega)]
  · intro hp2
    rw [f1 33 (by decide) (by decide) (by decide)]
    unfold jw_bk
    rw [if_neg (show ¬ 7 + p = 0 by omega), if_neg (show ¬ 7 + p = 1 by omega), jw_del_0 hR0 rfl (Nat.le_refl _) (by omega), jq_0]
    exact (hT.2.2.1 p hp).2 hp2
  · refine (g1.2 d hd).1.trans ?_
    show T0 34 d + -1 * jw_del (jC hm b) (jw_rem (T0 1 2 - 1) (jC hm b 0 0)) (a 36) l (jz_nd hm b) (12 + d) = _
    rw [e0, (hT.2.2.2 d hd).1]
    unfold jw_bk
    rw [if_neg (by omega), if_neg (by omega)]
  · refine (g1.2 d hd).2.trans ?_
    show T0 35 d + -1 * jw_del (jC hm b) (jw_rem (T0 1 2 - 1) (jC hm b 0 0)) (a 36) l (jz_nd hm b) (24 + d) = _
    rw [e0, (hT.2.2.2 d hd).2.1]
    unfold jw_bk
    rw [if_neg (by omega), if_neg (by omega)]
  · rw [f1 36 (by decide) (by decide) (by decide)]
    unfold jw_bk
    rw [if_neg (by omega), if_neg (by omega), jw_del_0 hR0 rfl (Nat.le_refl _) (by omega), jq_0]
    exact (hT.2.2.2 d hd).2.2

