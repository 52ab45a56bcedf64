/-- the model ahead of its first token -/
def jRpre (h h0 : jx_H) (β : Nat) : Prop := (∀ a c, a ≠ 11 → a ≠ 65 → jh_I h0 a c = jh_I h a c) ∧ h0.2 = h.2 ∧ (∀ f, f ≠ 2 → f ≠ 3 → f ≠ 4 → f ≠ 5 → f ≠ 7 → f ≠ 44 → jh_I h0 11 0 f = jh_I h 11 0 f) ∧ jh_I h0 11 0 2 = 0 ∧ jh_I h0 11 0 44 = nI β
theorem jML_0 {h h2 : jx_H} {B : Nat → Int32} {s β : Nat} (c : jCBv h β) (g : jT_MG h h2) (m : jT_mc h2 B s 0) (f3 : jh_I h 11 0 3 = nI s) (hs : s ≤ 1700) (hB : jT_c (jh_I h 65 0) s = jT_c B s) (f5 : jh_I h 11 0 5 = -1) (f4 : jh_I h 11 0 4 = 0) (f44 : jh_I h 11 0 44 = nI β) (f45 : jh_I h 11 0 45 = nI (620 * β)) : jML h2 B s β 0 jv0 jw0 jd0 := by
  obtain ⟨c66, c67, c68, c69, c85, c86, c87, c88, c80, c81, c89⟩ := c
  have e : ∀ a, a ≠ 11 → jh_I h2 a 0 = jh_I h a 0 := fun a z => g.1 a 0 z
  have n0 : ∀ {n : Nat}, n < 0 → False := fun z => Nat.not_lt_zero _ z
  refine ⟨⟨jX_t_MG g ⟨f3, hs, hB, f5⟩, m, (g.2.2.2 4 (by decide)).trans f4, (g.2.2.2 44 (by decide)).trans f44, (congrFun (e 69 (by decide)) β).trans c69, (g.2.2.2 45 (by decide)).trans f45, rfl, rfl⟩,
    ⟨⟨(congrFun (e 66 (by decide)) β).trans c66, fun j hj => absurd hj (Nat.not_lt_zero _)⟩, ⟨(congrFun (e 67 (by decide)) β).trans c67, fun j hj => absurd hj (Nat.not_lt_zero _)⟩, ⟨(congrFun (e 68 (by decide)) β).trans c68, fun j hj => absurd hj (Nat.not_lt_zero _)⟩, fun w hw => ⟨?_, fun z => ?_⟩,
    ⟨(congrFun (e 85 (by decide)) β).trans c85, fun z => absurd z (by decide)⟩, (congrFun (e 86 (by decide)) β).trans c86, (congrFun (e 80 (by decide)) β).trans c80, (congrFun (e 87 (by decide)) β).trans c87, (congrFun (e 81 (by decide)) β).trans c81, (congrFun (e 88 (by decide)) β).trans c88⟩, fun q hq => absurd hq (Nat.not_lt_zero _)⟩
  · rw [jv0_0 (by omega)]
    exact (congrFun (e 89 (by decide)) _).trans (c89 w hw)
  · rw [jv0_0 (by omega)] at z
    exact absurd z (by decide)
set_option maxHeartbeats 800000 in
set_option maxRecDepth 100000 in
theorem eM_rp_pre0 {d : Nat} {h : jx_H} {Q : Option jx_V → jx_H → Prop} {B : Nat → Int32} {s : Nat} (hb : jh_I h 11 0 43 = nI 0) (hs : jh_I h 11 0 2 = nI s) (hs17 : s ≤ 1700) (hB : ∀ j, j < s → jh_I h 64 0 j &&& 255 = B j &&& 255) (k : ∀ (h0 h1 : jx_H) (y : jx_V), jRpre h h0 1 → jML h1 B s 1 0 jv0 jw0 jd0 → jMF 1 h0 h1 → jq_RP d (jh_n h) Q y 42 h1)  : jx_Ev jm_MD_republic (d + 21) 0 0 false 1 [jv_r 11 0] h Q := by
  show jx_W (jm_MD_republic, d + 21, 0, 0, false, 1, _) Q 0 0 0 [some (jv_r 11 0), none] [] _
  refine jr_aload rfl rfl ?_
  refine jr_ic rfl ?_
  refine jr_putI rfl rfl ?_
  refine jr_aload rfl rfl ?_
  refine jr_ic rfl ?_
  refine jr_putI rfl rfl ?_
  rw [jq_up]
  refine jr_aload rfl rfl ?_
  refine jr_aload rfl rfl ?_
  refine jr_getI rfl rfl ?_
  refine jx_top (show _ = nI s from hs) ?_
  refine jr_putI rfl rfl ?_
  rw [jq_up]
  refine jr_ic rfl ?_
  refine jr_ist1 rfl rfl ?_
  refine lp_cp0 (h := (ju_I h 11 0 (upd (upd (upd (jh_I h 11 0) 4 0) 5 (-1)) 3 (nI s)))) (s := s) (show jh_I (ju_I h 11 0 (upd (upd (upd (jh_I h 11 0) 4 0) 5 (-1)) 3 (nI s))) 11 0 3 = nI s from rfl) hs17 (fun F y hF => ?_)
  refine jr_aload rfl rfl ?_
  refine jr_ic rfl ?_
  refine jr_putI rfl rfl ?_
  rw [jq_c _ _ _ _ _ (by decide)]
  refine jr_aload rfl rfl ?_
  refine jr_ic rfl ?_
  refine jr_putI rfl rfl ?_
  rw [jq_c _ _ _ _ _ (by decide)]
  refine jr_aload rfl rfl ?_
  refine jr_ic rfl ?_
  refine jr_aload rfl rfl ?_
  refine jr_getI rfl rfl ?_
  refine jx_top (show _ = (0 : Int32) from hb) ?_
  refine jr_isub rfl ?_
  refine jx_top (show (1 : Int32) - 0 = 1 from by decide) ?_
  refine jr_putI rfl rfl ?_
  rw [jq_c _ _ _ _ _ (by decide)]
  refine jr_aload rfl rfl ?_
  refine jr_cv0 (mc' := 0) (ms' := 0) rfl jm_MD_clearBank_n jm_MD_clearBank_f rfl rfl rfl rfl rfl rfl rfl (Nat.zero_le _) (Nat.zero_le _) ?_
  refine eM_clearBank1 (G := (upd (upd (upd (upd (upd (jh_I h 11 0) 4 0) 5 (-1)) 3 (nI s)) 2 0) 7 0)) (F := F) (fun h1 M1 cf c45 c65 cv => ?_)
  refine jr_aload rfl rfl ?_
  refine jr_cv0 (mc' := 0) (ms' := 0) rfl jm_MD_goOn_n jm_MD_goOn_f rfl rfl rfl rfl rfl rfl rfl (Nat.zero_le _) (Nat.zero_le _) ?_
  have j3 : jh_I h1 11 0 3 = nI s := (cf 3 (by decide)).trans rfl
  have jB : jT_c (jh_I h1 65 0) s = jT_c B s := by
    rw [c65]
    funext i
    unfold jT_c
    by_cases e : i < s
    · rw [if_pos e, if_pos e, show F i &&& 255 = jh_I h 64 0 i &&& 255 from hF i e, hB i e]
    · rw [if_neg e, if_neg e]
  refine eM_goOn (B := B) (sz := s) (t := 0) j3 hs17 jB ((cf 7 (by decide)).trans rfl) (fun h2 g2 m2 => ?_)
  have x2 : jML h2 B s 1 0 jv0 jw0 jd0 := jML_0 cv g2 m2 j3 hs17 jB ((cf 5 (by decide)).trans rfl) ((cf 4 (by decide)).trans rfl) ((cf 44 (by decide)).trans rfl) c45
  refine k (ju_I (ju_I h 11 0 (upd (upd (upd (upd (upd (upd (jh_I h 11 0) 4 0) 5 (-1)) 3 (nI s)) 2 0) 7 0) 44 1)) 65 0 F) h2 y ⟨fun a c z1 z2 => (if_neg (fun y => z2 y.1)).trans (if_neg (fun y => z1 y.1)), rfl, fun f n2 n3 n4 n5 n7 n44 => ?_, rfl, rfl⟩ x2 (jMF_G M1 g2)
  show upd (upd (upd (upd (upd (upd (jh_I h 11 0) 4 0) 5 (-1)) 3 (nI s)) 2 0) 7 0) 44 1 f = _
  rw [jg_un n44, jg_un n7, jg_un n2, jg_un n3, jg_un n5, jg_un n4]

set_option maxHeartbeats 800000 in
set_option maxRecDepth 100000 in
theorem eM_rp_pre1 {d : Nat} {h : jx_H} {Q : Option jx_V → jx_H → Prop} {B : Nat → Int32} {s : Nat} (hb : jh_I h 11 0 43 = nI 1) (hs : jh_I h 11 0 2 = nI s) (hs17 : s ≤ 1700) (hB : ∀ j, j < s → jh_I h 64 0 j &&& 255 = B j &&& 255) (k : ∀ (h0 h1 : jx_H) (y : jx_V), jRpre h h0 0 → jML h1 B s 0 0 jv0 jw0 jd0 → jMF 0 h0 h1 → jq_RP d (jh_n h) Q y 42 h1)  : jx_Ev jm_MD_republic (d + 21) 0 0 false 1 [jv_r 11 0] h Q := by
  show jx_W (jm_MD_republic, d + 21, 0, 0, false, 1, _) Q 0 0 0 [some (jv_r 11 0), none] [] _
  refine jr_aload rfl rfl ?_
  refine jr_ic rfl ?_
  refine jr_putI rfl rfl ?_
  refine jr_aload rfl rfl ?_
  refine jr_ic rfl ?_
  refine jr_putI rfl rfl ?_
  rw [jq_up]
  refine jr_aload rfl rfl ?_
  refine jr_aload rfl rfl ?_
  refine jr_getI rfl rfl ?_
  refine jx_top (show _ = nI s from hs) ?_
  refine jr_putI rfl rfl ?_
  rw [jq_up]
  refine jr_ic rfl ?_
  refine jr_ist1 rfl rfl ?_
  refine lp_cp0 (h := (ju_I h 11 0 (upd (upd (upd (jh_I h 11 0) 4 0) 5 (-1)) 3 (nI s)))) (s := s) (show jh_I (ju_I h 11 0 (upd (upd (upd (jh_I h 11 0) 4 0) 5 (-1)) 3 (nI s))) 11 0 3 = nI s from rfl) hs17 (fun F y hF => ?_)
  refine jr_aload rfl rfl ?_
  refine jr_ic rfl ?_
  refine jr_putI rfl rfl ?_
  rw [jq_c _ _ _ _ _ (by decide)]
  refine jr_aload rfl rfl ?_
  refine jr_ic rfl ?_
  refine jr_putI rfl rfl ?_
  rw [jq_c _ _ _ _ _ (by decide)]
  refine jr_aload rfl rfl ?_
  refine jr_ic rfl ?_
  refine jr_aload rfl rfl ?_
  refine jr_getI rfl rfl ?_
  refine jx_top (show _ = (1 : Int32) from hb) ?_
  refine jr_isub rfl ?_
  refine jx_top (show (1 : Int32) - 1 = 0 from by decide) ?_
  refine jr_putI rfl rfl ?_
  rw [jq_c _ _ _ _ _ (by decide)]
  refine jr_aload rfl rfl ?_
  refine jr_cv0 (mc' := 0) (ms' := 0) rfl jm_MD_clearBank_n jm_MD_clearBank_f rfl rfl rfl rfl rfl rfl rfl (Nat.zero_le _) (Nat.zero_le _) ?_
  refine eM_clearBank0 (G := (upd (upd (upd (upd (upd (jh_I h 11 0) 4 0) 5 (-1)) 3 (nI s)) 2 0) 7 0)) (F := F) (fun h1 M1 cf c45 c65 cv => ?_)
  refine jr_aload rfl rfl ?_
  refine jr_cv0 (mc' := 0) (ms' := 0) rfl jm_MD_goOn_n jm_MD_goOn_f rfl rfl rfl rfl rfl rfl rfl (Nat.zero_le _) (Nat.zero_le _) ?_
  have j3 : jh_I h1 11 0 3 = nI s := (cf 3 (by decide)).trans rfl
  have jB : jT_c (jh_I h1 65 0) s = jT_c B s := by
    rw [c65]
    funext i
    unfold jT_c
    by_cases e : i < s
    · rw [if_pos e, if_pos e, show F i &&& 255 = jh_I h 64 0 i &&& 255 from hF i e, hB i e]
    · rw [if_neg e, if_neg e]
  refine eM_goOn (B := B) (sz := s) (t := 0) j3 hs17 jB ((cf 7 (by decide)).trans rfl) (fun h2 g2 m2 => ?_)
  have x2 : jML h2 B s 0 0 jv0 jw0 jd0 := jML_0 cv g2 m2 j3 hs17 jB ((cf 5 (by decide)).trans rfl) ((cf 4 (by decide)).trans rfl) ((cf 44 (by decide)).trans rfl) c45
  refine k (ju_I (ju_I h 11 0 (upd (upd (upd (upd (upd (upd (jh_I h 11 0) 4 0) 5 (-1)) 3 (nI s)) 2 0) 7 0) 44 0)) 65 0 F) h2 y ⟨fun a c z1 z2 => (if_neg (fun y => z2 y.1)).trans (if_neg (fun y => z1 y.1)), rfl, fun f n2 n3 n4 n5 n7 n44 => ?_, rfl, rfl⟩ x2 (jMF_G M1 g2)
  show upd (upd (upd (upd (upd (upd (jh_I h 11 0) 4 0) 5 (-1)) 3 (nI s)) 2 0) 7 0) 44 0 f = _
  rw [jg_un n44, jg_un n7, jg_un n2, jg_un n3, jg_un n5, jg_un n4]

theorem eM_rp_pre {d : Nat} {h : jx_H} {Q : Option jx_V → jx_H → Prop} {B : Nat → Int32} {b s : Nat} (hb : jh_I h 11 0 43 = nI b) (hb2 : b < 2) (hs : jh_I h 11 0 2 = nI s) (hs17 : s ≤ 1700) (hB : ∀ j, j < s → jh_I h 64 0 j &&& 255 = B j &&& 255) (k : ∀ (h0 h1 : jx_H) (y : jx_V), jRpre h h0 (1 - b) → jML h1 B s (1 - b) 0 jv0 jw0 jd0 → jMF (1 - b) h0 h1 → jq_RP d (jh_n h) Q y 42 h1) : jx_Ev jm_MD_republic (d + 21) 0 0 false 1 [jv_r 11 0] h Q := by
  rcases (show b = 0 ∨ b = 1 by omega) with rfl | rfl
  · exact eM_rp_pre0 hb hs hs17 hB k
  · exact eM_rp_pre1 hb hs hs17 hB k
set_option maxHeartbeats 800000 in
set_option maxRecDepth 100000 in
theorem lp_bg {d n0 : Nat} {Q : Option jx_V → jx_H → Prop} {h : jx_H} (k : Nat) (F : Nat → Int32) (hk : k ≤ 337) (hF : ∀ j, j < k → F j = 0) (kk : ∀ (F' : Nat → Int32) (y : jx_V), (∀ j, j < 337 → F' j = 0) → jx_W (jm_MD_begin, d + 1, 0, 0, false, 1, n0) Q 0 0 12 [some (jv_r 11 0), some y] [] (ju_I h 98 0 F'))  : jx_W (jm_MD_begin, d + 1, 0, 0, false, 1, n0) Q 0 0 2 [some (jv_r 11 0), some (jv_i (nI k))] [] (ju_I h 98 0 F) := by
  refine jr_iload rfl rfl ?_
  refine jr_ic rfl ?_
  refine jr_icmp_ge rfl (fun c4 => ?_) (fun c4 => ?_)
  · exact kk F _ (fun j hj => hF j (by have := jn_le (show nI 337 ≤ nI k from c4) (by omega) (by omega); omega))
  · have hk1 : k < 337 := jn_nle (show ¬ nI 337 ≤ nI k from c4) (by omega) (by omega)
    refine jr_aload rfl rfl ?_
    refine jr_getR rfl rfl rfl rfl (Or.inl rfl) ?_
    refine jr_iload rfl rfl ?_
    refine jr_ic rfl ?_
    refine jr_iast (len := 337) rfl rfl rfl (by omega) ?_
    rw [jq_up]
    refine jr_iinc1 rfl rfl ?_
    refine jr_goto rfl ?_
    rw [jn_S]
    exact lp_bg (k + 1) (upd F k 0) (by omega) (fun j hj => by
      by_cases e : j = k
      · subst e
        exact jg_us _ _ _
      · rw [jg_un e]
        exact hF j (by omega)) kk
termination_by 337 - k
decreasing_by all_goals omega

set_option maxHeartbeats 800000 in
set_option maxRecDepth 100000 in
theorem lp_bg2 {d n0 : Nat} {Q : Option jx_V → jx_H → Prop} {h : jx_H} {b np : Nat} (p : Nat) (F : Nat → Int32) (hb : jh_I h 11 0 43 = nI b) (hb2 : b < 2) (hn : jh_I h 67 0 b = nI np) (hn5 : np ≤ 5) (hp : p ≤ np) (hF : ∀ j, j < 337 → F j = if 7 ≤ j ∧ j < 7 + p then jh_I h 72 0 (5 * b + (j - 7)) else 0) (kk : ∀ (F' : Nat → Int32) (y : jx_V), (∀ j, j < 337 → F' j = if 7 ≤ j ∧ j < 7 + np then jh_I h 72 0 (5 * b + (j - 7)) else 0) → jx_W (jm_MD_begin, d + 1, 0, 0, false, 1, n0) Q 0 0 35 [some (jv_r 11 0), some y] [] (ju_I h 98 0 F'))  : jx_W (jm_MD_begin, d + 1, 0, 0, false, 1, n0) Q 0 0 14 [some (jv_r 11 0), some (jv_i (nI p))] [] (ju_I h 98 0 F) := by
  refine jr_iload rfl rfl ?_
  refine jr_aload rfl rfl ?_
  refine jr_cv0 (mc' := 0) (ms' := 0) rfl jm_MD_personMany_n jm_MD_personMany_f rfl rfl rfl rfl rfl rfl rfl (Nat.zero_le _) (Nat.zero_le _) ?_
  show jx_W (jm_MD_personMany, _, _, _, _, _, _) _ 0 0 0 [some _] [] _
  refine jr_aload rfl rfl ?_
  refine jr_getR rfl rfl rfl rfl (Or.inl rfl) ?_
  refine jr_aload rfl rfl ?_
  refine jr_getI rfl rfl ?_
  refine jr_iald (len := 2) rfl rfl hb (by omega) ?_
  refine jr_iret rfl rfl (Nat.zero_le _) (Nat.zero_le _) ?_
  refine jx_top (show _ = nI np from hn) ?_
  refine jr_icmp_ge rfl (fun c17 => ?_) (fun c17 => ?_)
  · have e : p = np := by have := jn_le (show nI np ≤ nI p from c17) (by omega) (by omega); omega
    subst e
    exact kk F _ hF
  · have hp1 : p < np := jn_nle (show ¬ nI np ≤ nI p from c17) (by omega) (by omega)
    refine jr_aload rfl rfl ?_
    refine jr_getR rfl rfl rfl rfl (Or.inl rfl) ?_
    refine jr_ic rfl ?_
    refine jr_iload rfl rfl ?_
    refine jr_iadd rfl ?_
    refine jr_aload rfl rfl ?_
    refine jr_getR rfl rfl rfl rfl (Or.inl rfl) ?_
    refine jr_ic rfl ?_
    refine jr_aload rfl rfl ?_
    refine jr_getI rfl rfl ?_
    refine jr_imul rfl ?_
    refine jr_iload rfl rfl ?_
    refine jr_iadd rfl ?_
    refine jr_iald (len := 10) rfl rfl (jn_add (jn_mul (show _ = nI 5 from rfl) hb) rfl) (by omega) ?_
    refine jr_iast (len := 337) rfl rfl (jn_add (show _ = nI 7 from rfl) rfl) (by omega) ?_
    rw [jq_up]
    refine jr_iinc1 rfl rfl ?_
    refine jr_goto rfl ?_
    rw [jn_S]
    exact lp_bg2 (p + 1) (upd F (7 + p) _) hb hb2 hn hn5 (by omega) (fun j hj => by
      by_cases e : j = 7 + p
      · rw [e, jg_us, if_pos (by omega), show 5 * b + (7 + p - 7) = 5 * b + p by omega]
        rfl
      · rw [jg_un e, hF j hj]
        by_cases c : 7 ≤ j ∧ j < 7 + p
        · rw [if_pos c, if_pos (by omega)]
        · rw [if_neg c, if_neg (by omega)]) kk
termination_by np - p
decreasing_by all_goals omega

set_option maxHeartbeats 800000 in
set_option maxRecDepth 100000 in
theorem eM_begin {d : Nat} {h : jx_H} {Q : Option jx_V → jx_H → Prop} {b np : Nat} (hb : jh_I h 11 0 43 = nI b) (hb2 : b < 2) (hn : jh_I h 67 0 b = nI np) (hn5 : np ≤ 5) (k : ∀ F : Nat → Int32, (∀ j, j < 337 → F j = if 7 ≤ j ∧ j < 7 + np then jh_I h 72 0 (5 * b + (j - 7)) else 0) → Q none (ju_I (ju_I h 98 0 F) 11 0 (upd (upd (jh_I h 11 0) 60 0) 61 0)))  : jx_Ev jm_MD_begin (d + 1) 0 0 false 1 [jv_r 11 0] h Q := by
  show jx_W (jm_MD_begin, d + 1, 0, 0, false, 1, _) Q 0 0 0 [some (jv_r 11 0), none] [] _
  refine jr_ic rfl ?_
  refine jr_ist1 rfl rfl ?_
  have e0 := lp_bg (d := d) (n0 := jh_n h) (Q := Q) (h := h) 0 (jh_I h 98 0) (by omega) (fun j hj => absurd hj (Nat.not_lt_zero _)) (fun F y hF => ?_)
  · rw [jg_self] at e0
    exact e0
  refine jr_ic rfl ?_
  refine jr_ist1 rfl rfl ?_
  refine lp_bg2 (b := b) (np := np) 0 F hb hb2 hn hn5 (Nat.zero_le _) (fun j hj => by rw [hF j hj, if_neg (by omega)]) (fun F2 y2 hF2 => ?_)
  refine jr_aload rfl rfl ?_
  refine jr_ic rfl ?_
  refine jr_putI rfl rfl ?_
  rw [show jh_I (ju_I h 98 0 F2) 11 0 = jh_I h 11 0 from rfl]
  refine jr_aload rfl rfl ?_
  refine jr_ic rfl ?_
  refine jr_putI rfl rfl ?_
  rw [jq_up]
  refine jr_vret rfl rfl (Nat.zero_le _) (Nat.zero_le _) ?_
  exact k F2 hF2

